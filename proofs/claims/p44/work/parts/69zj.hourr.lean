/-! an hour of the reference exactly -/
/-- an hour of the reference: row h + 1 becomes s2, v is done -/
def HourP (nt : Int) (m m1 : Mm) (h : Nat) (s s2 : Wd) (v : Int) : Prop := RowR nt m1 (h + 1) s2 ∧ m1 201 h = v ∧ m1 192 21 = (if ¬ s 1 = -1 ∧ s2 1 = -1 then (h : Int) else m 192 21) ∧ m1 192 22 = s2 16 ∧ (∀ c : Nat, c < 5 → m1 204 c = m 204 c + (if v = 3 ∧ s 1 = (c : Int) then 1 else 0)) ∧ ∀ p i : Nat, ¬ (p = 200 ∧ 16 * h + 16 ≤ i ∧ i < 16 * h + 32) → ¬ (p = 201 ∧ i = h) → ¬ (p = 202 ∧ i = h) → ¬ p = 204 → ¬ (p = 192 ∧ (i = 21 ∨ i = 22)) → m1 p i = m p i
theorem over_16 {s : Wd} {k : Int} : overF s k 16 = k := by unfold overF; rw [upw_ne (by decide), upw_ne (by decide), upw_at]
theorem over_ne {s : Wd} {k : Int} {j : Nat} (h0 : ¬ j = 0) (h1 : ¬ j = 1) (h16 : ¬ j = 16) : overF s k j = s j := by unfold overF; rw [upw_ne h1, upw_ne h0, upw_ne h16]
theorem roww_c {nt : Int} {m : Mm} {n : Nat} {s s2 : Wd} (r : RowW nt m n s) (e : ∀ j : Nat, j < 16 → ¬ j = 3 → s2 j = s j) : RowW nt m n s2 := by
  obtain ⟨a, c, d⟩ := r
  exact ⟨fun q hq h3 => (a q hq h3).trans (e q (by omega) h3).symm, fun q hq => (c q hq).trans (e (6 + q) (by omega) (by omega)).symm, fun t ht hn => (d t ht hn).trans (e (11 + t) (by omega) (by omega)).symm⟩
/-- carried, and who carries holds -/
theorem carp_lo {nt : Int} {m m1 : Mm} {h b : Nat} {w s : Wd} {g o3 : Int} (hb : s 1 = (b : Int)) (hb5 : b < 5) (hc : s (6 + b) + s 2 ≤ w (48 + 2 * b)) (h22 : m 192 22 = s 16) (h3 : m 200 (16 * h + 19) = max 0 (s 3 - ((h + 1 : Nat) : Int))) (r : RowW nt m1 (h + 1) (upw (upw s 0 g) (6 + b) (s (6 + b) + s 2))) (e3 : m1 200 (16 * h + 19) = m 200 (16 * h + 19)) (d : m1 201 h = 3) (o : m1 192 21 = m 192 21) (k : m1 192 22 = m 192 22) (c : ∀ c : Nat, c < 5 → m1 204 c = m 204 c + (if (b : Int) = (c : Int) then 1 else 0))
    (f : ∀ p i : Nat, ¬ (p = 200 ∧ 16 * h + 16 ≤ i ∧ i < 16 * h + 32) → ¬ (p = 201 ∧ i = h) → ¬ (p = 202 ∧ i = h) → ¬ p = 204 → ¬ (p = 192 ∧ (i = 21 ∨ i = 22)) → m1 p i = m p i) : HourP nt m m1 h s (carF w s g) 3 := by
  rw [car_lo hb hc]
  refine ⟨⟨r, fun _ => ?_⟩, d, ?_, ?_, fun q hq => ?_, f⟩
  · rw [show 16 * (h + 1) + 3 = 16 * h + 19 by omega, e3, h3, upw_ne (by omega), upw_ne (by decide)]
  · rw [o, if_neg]
    rintro ⟨_, z⟩
    rw [upw_ne (by omega), upw_ne (by decide)] at z
    omega
  · rw [k, h22, upw_ne (by omega), upw_ne (by decide)]
  · rw [c q hq, hb]
    by_cases e : (b : Int) = (q : Int)
    · rw [if_pos e, if_pos ⟨rfl, e⟩]
    · rw [if_neg e, if_neg (fun z => e z.2)]
/-- carried, and another one takes him -/
theorem carp_ch {nt : Int} {m m1 : Mm} {h b : Nat} {w s : Wd} {g y : Int} (hb : s 1 = (b : Int)) (hb5 : b < 5) (hc : ¬ s (6 + b) + s 2 ≤ w (48 + 2 * b)) (hy : y = strongF w g (ior (s 5) (ishl 1 (b : Int)))) (hy1 : ¬ y = -1) (h22 : m 192 22 = s 16) (h3 : m 200 (16 * h + 19) = max 0 (s 3 - ((h + 1 : Nat) : Int))) (r : RowW nt m1 (h + 1) (upw (upw (upw (upw s 0 g) (6 + b) (s (6 + b) + s 2)) 5 (ior (s 5) (ishl 1 (b : Int)))) 1 y)) (e3 : m1 200 (16 * h + 19) = m 200 (16 * h + 19)) (d : m1 201 h = 3) (o : m1 192 21 = m 192 21) (k : m1 192 22 = m 192 22) (c : ∀ c : Nat, c < 5 → m1 204 c = m 204 c + (if (b : Int) = (c : Int) then 1 else 0))
    (f : ∀ p i : Nat, ¬ (p = 200 ∧ 16 * h + 16 ≤ i ∧ i < 16 * h + 32) → ¬ (p = 201 ∧ i = h) → ¬ (p = 202 ∧ i = h) → ¬ p = 204 → ¬ (p = 192 ∧ (i = 21 ∨ i = 22)) → m1 p i = m p i) : HourP nt m m1 h s (carF w s g) 3 := by
  rw [car_ch hb hc (by rw [← hy]; exact hy1), ← hy]
  refine ⟨⟨r, fun _ => ?_⟩, d, ?_, ?_, fun q hq => ?_, f⟩
  · rw [show 16 * (h + 1) + 3 = 16 * h + 19 by omega, e3, h3, upw_ne (by decide), upw_ne (by decide), upw_ne (by omega), upw_ne (by decide)]
  · rw [o, if_neg]
    rintro ⟨_, z⟩
    rw [upw_at] at z
    exact hy1 z
  · rw [k, h22, upw_ne (by decide), upw_ne (by decide), upw_ne (by omega), upw_ne (by decide)]
  · rw [c q hq, hb]
    by_cases e : (b : Int) = (q : Int)
    · rw [if_pos e, if_pos ⟨rfl, e⟩]
    · rw [if_neg e, if_neg (fun z => e z.2)]
/-- carried, and nobody is left -/
theorem carp_no {nt : Int} {m m1 : Mm} {h b : Nat} {w s : Wd} {g y : Int} (hb : s 1 = (b : Int)) (hc : ¬ s (6 + b) + s 2 ≤ w (48 + 2 * b)) (hy : y = strongF w g (ior (s 5) (ishl 1 (b : Int)))) (hy1 : y = -1) (r : RowW nt m1 (h + 1) (upw (upw (upw (upw (upw (upw s 0 g) (6 + b) (s (6 + b) + s 2)) 5 (ior (s 5) (ishl 1 (b : Int)))) 1 y) 0 (-1)) 1 (-1))) (d : m1 201 h = 3) (o : m1 192 21 = (h : Int)) (k : m1 192 22 = 0) (c : ∀ c : Nat, c < 5 → m1 204 c = m 204 c + (if (b : Int) = (c : Int) then 1 else 0))
    (f : ∀ p i : Nat, ¬ (p = 200 ∧ 16 * h + 16 ≤ i ∧ i < 16 * h + 32) → ¬ (p = 201 ∧ i = h) → ¬ (p = 202 ∧ i = h) → ¬ p = 204 → ¬ (p = 192 ∧ (i = 21 ∨ i = 22)) → m1 p i = m p i) : HourP nt m m1 h s (carF w s g) 3 := by
  rw [car_no hb hc (by rw [← hy]; exact hy1)]
  refine ⟨⟨roww_c r (fun j hj j3 => ?_), fun z => absurd over_1 z⟩, d, ?_, ?_, fun q hq => ?_, f⟩
  · by_cases e1 : j = 1
    · rw [e1, over_1, upw_at]
    · by_cases e0 : j = 0
      · rw [e0, over_0, upw_ne (by decide), upw_at]
      · rw [over_ne e0 e1 (by omega), upw_ne e1, upw_ne e0, upw_ne e1]
  · rw [o, if_pos ⟨by omega, over_1⟩]
  · rw [k, over_16]
  · rw [c q hq, hb]
    by_cases e : (b : Int) = (q : Int)
    · rw [if_pos e, if_pos ⟨rfl, e⟩]
    · rw [if_neg e, if_neg (fun z => e z.2)]
/-- an hour in which he is not carried, and it is not over -/
theorem hourp_st {nt : Int} {m m1 : Mm} {h : Nat} {s s2 : Wd} {v : Int} (hv : ¬ v = 3) (h1 : s2 1 = s 1) (h16 : s2 16 = s 16) (h22 : m 192 22 = s 16) (r : RowW nt m1 (h + 1) s2) (e3 : ¬ s 1 = -1 → m1 200 (16 * h + 19) = max 0 (s2 3 - ((h + 1 : Nat) : Int))) (d : m1 201 h = v) (o : m1 192 21 = m 192 21) (k : m1 192 22 = m 192 22) (c : ∀ c : Nat, m1 204 c = m 204 c)
    (f : ∀ p i : Nat, ¬ (p = 200 ∧ 16 * h + 16 ≤ i ∧ i < 16 * h + 32) → ¬ (p = 201 ∧ i = h) → ¬ (p = 202 ∧ i = h) → ¬ p = 204 → ¬ (p = 192 ∧ (i = 21 ∨ i = 22)) → m1 p i = m p i) : HourP nt m m1 h s s2 v := by
  refine ⟨⟨r, fun z => ?_⟩, d, ?_, ?_, fun q hq => ?_, f⟩
  · rw [show 16 * (h + 1) + 3 = 16 * h + 19 by omega]; exact e3 (by rw [← h1]; exact z)
  · rw [o, if_neg (fun z => z.1 (h1.symm.trans z.2))]
  · rw [k, h22, h16]
  · rw [c q, if_neg (fun z => hv z.1)]; omega
/-- thrown -/
theorem hourp_th {nt : Int} {m m1 : Mm} {h : Nat} {s : Wd} (hb : ¬ s 1 = -1) (r : RowW nt m1 (h + 1) (upw (upw s 0 (-1)) 1 (-1))) (d : m1 201 h = 5) (o : m1 192 21 = (h : Int)) (k : m1 192 22 = 1) (c : ∀ c : Nat, m1 204 c = m 204 c)
    (f : ∀ p i : Nat, ¬ (p = 200 ∧ 16 * h + 16 ≤ i ∧ i < 16 * h + 32) → ¬ (p = 201 ∧ i = h) → ¬ (p = 202 ∧ i = h) → ¬ p = 204 → ¬ (p = 192 ∧ (i = 21 ∨ i = 22)) → m1 p i = m p i) : HourP nt m m1 h s (overF s 1) 5 := by
  refine ⟨⟨roww_c r (fun j hj j3 => ?_), fun z => absurd over_1 z⟩, d, ?_, ?_, fun q hq => ?_, f⟩
  · by_cases e1 : j = 1
    · rw [e1, over_1, upw_at]
    · by_cases e0 : j = 0
      · rw [e0, over_0, upw_ne (by decide), upw_at]
      · rw [over_ne e0 e1 (by omega), upw_ne e1, upw_ne e0]
  · rw [o, if_pos ⟨hb, over_1⟩]
  · rw [k, over_16]
  · rw [c q, if_neg (fun z => absurd z.1 (by decide))]; omega
/-- an hour begun elsewhere: what was written before it lies in its frame -/
theorem hourp_tr {nt : Int} {m m0 m1 : Mm} {h : Nat} {s s2 : Wd} {v : Int} (p : HourP nt m0 m1 h s s2 v) (o : m0 192 21 = m 192 21) (c : ∀ c : Nat, m0 204 c = m 204 c)
    (f : ∀ p i : Nat, ¬ (p = 200 ∧ 16 * h + 16 ≤ i ∧ i < 16 * h + 32) → ¬ (p = 201 ∧ i = h) → ¬ (p = 202 ∧ i = h) → ¬ p = 204 → ¬ (p = 192 ∧ (i = 21 ∨ i = 22)) → m0 p i = m p i) : HourP nt m m1 h s s2 v := by
  obtain ⟨a1, a2, a3, a4, a5, a6⟩ := p
  refine ⟨a1, a2, by rw [a3, o], a4, fun q hq => by rw [a5 q hq, c q], fun p i x1 x2 x3 x4 x5 => (a6 p i x1 x2 x3 x4 x5).trans (f p i x1 x2 x3 x4 x5)⟩
section HOURR
variable {T : List Kd} {m : Mm}
theorem cb_l (hT : TT T) (hp : PinR m) {w : Wd} (hB : WB w) {nt : Int} (hE : EW nt m w) {h t b c : Nat} (hh : h < 12) {fb : Int} (hfb : m 200 (16 * h + 21) = fb) (hc : w 7 = (c : Int)) {Q : AV → Mm → Prop} (hout : ∀ y : Int, BestOf c (fun b : Nat => iand (ishr fb (b : Int)) 1 = 0 ∧ w (47 + 2 * b) = (t : Int)) (fun b : Nat => - w (48 + 2 * b)) y → GX T 3 139 174 [(2, 192), (0, (h : Int)), (0, (t : Int)), (0, (h : Int) + 1), (0, (b : Int)), (0, y), (0, (c : Int))] [] m Q) : ∀ (N k : Nat) (y : Int), c - k < N → k ≤ c → BestOf k (fun b : Nat => iand (ishr fb (b : Int)) 1 = 0 ∧ w (47 + 2 * b) = (t : Int)) (fun b : Nat => - w (48 + 2 * b)) y → GX T 3 139 107 [(2, 192), (0, (h : Int)), (0, (t : Int)), (0, (h : Int) + 1), (0, (b : Int)), (0, y), (0, (k : Int))] [] m Q := by
  have b7 := hB.2.2.2.2.1
  intro N
  induction N with
  | zero => intro k y hN; exact absurd hN (Nat.not_lt_zero _)
  | succ N ih =>
    intro k y hN hk hb
    refine gx_st (L' := [(2, 192), (0, (h : Int)), (0, (t : Int)), (0, (h : Int) + 1), (0, (b : Int)), (0, y), (0, (k : Int))]) (S' := [(0, (k : Int))]) r_139_107 rfl rfl rfl ?_
    refine gx_st (L' := [(2, 192), (0, (h : Int)), (0, (t : Int)), (0, (h : Int) + 1), (0, (b : Int)), (0, y), (0, (k : Int))]) (S' := [(2, 192), (0, (k : Int))]) r_139_109 rfl rfl rfl ?_
    refine gx_gf (x := 193) 2 r_139_110 (rfl) (ty_192 hT) ⟨by decide, rfl, by decide, by decide⟩ rfl (fun _ => by omega) (pin_at hp (t := 193) rfl (by decide)) ?_
    refine gx_st (L' := [(2, 192), (0, (h : Int)), (0, (t : Int)), (0, (h : Int) + 1), (0, (b : Int)), (0, y), (0, (k : Int))]) (S' := [(0, 7), (2, 193), (0, (k : Int))]) r_139_113 rfl rfl rfl ?_
    refine gx_ia (n := 7) (x := (c : Int)) r_139_115 (rfl) (ty_193 hT) (rfl) ⟨rfl, by decide⟩ ((hE.1 7 (by decide) (by decide) (by decide)).trans hc) ?_
    refine gx_ic (P := (c : Int) ≤ (k : Int)) r_139_116 (rfl) (fun h116 => ?_) (fun h116 => ?_)
    · have hkc : k = c := by omega
      rw [hkc] at hb ⊢
      exact hout y hb
    · refine gx_st (L' := [(2, 192), (0, (h : Int)), (0, (t : Int)), (0, (h : Int) + 1), (0, (b : Int)), (0, y), (0, (k : Int))]) (S' := [(2, 192)]) r_139_119 rfl rfl rfl ?_
      refine gx_st (L' := [(2, 192), (0, (h : Int)), (0, (t : Int)), (0, (h : Int) + 1), (0, (b : Int)), (0, y), (0, (k : Int))]) (S' := [(0, (h : Int) + 1), (2, 192)]) r_139_120 rfl rfl rfl ?_
      refine gx_st (L' := [(2, 192), (0, (h : Int)), (0, (t : Int)), (0, (h : Int) + 1), (0, (b : Int)), (0, y), (0, (k : Int))]) (S' := [(0, 5), (0, (h : Int) + 1), (2, 192)]) r_139_121 rfl rfl rfl ?_
      have c122_1 : m 200 (16 * h + 21) = fb := hfb
      refine gx_ci (nx := 125) (S2 := []) (l_131 hT hp (h := h + 1) (k := 5) (i := 16 * h + 21) (by omega) (by omega)) r_139_122 rfl rfl rfl rfl rfl (rcv_v rfl (ty_192 hT) (by decide) rfl (by decide)) rfl (by decide) rfl (fun x122_1 n122_1 q122_1 => ?_)
      obtain ⟨e_x122_1, z_x122_1⟩ := q122_1
      have y_x122_1 := z_x122_1.symm
      subst y_x122_1
      rw [e_x122_1, c122_1]
      show GX T 3 139 125 [(2, 192), (0, (h : Int)), (0, (t : Int)), (0, (h : Int) + 1), (0, (b : Int)), (0, y), (0, (k : Int))] [(0, fb)] m Q
      refine gx_st (L' := [(2, 192), (0, (h : Int)), (0, (t : Int)), (0, (h : Int) + 1), (0, (b : Int)), (0, y), (0, (k : Int))]) (S' := [(0, (k : Int)), (0, fb)]) r_139_125 rfl rfl rfl ?_
      refine gx_ci (nx := 130) (S2 := []) (x_87 fb (k : Int)) r_139_127 rfl rfl rfl rfl rfl rfl rfl (by decide) rfl (fun x127_2 n127_2 q127_2 => ?_)
      obtain rfl := q127_2.1.symm
      obtain rfl := q127_2.2.symm
      show GX T 3 139 130 [(2, 192), (0, (h : Int)), (0, (t : Int)), (0, (h : Int) + 1), (0, (b : Int)), (0, y), (0, (k : Int))] [(0, (iand (ishr fb (k : Int)) 1))] m Q
      refine gx_i0 (P := ¬ (iand (ishr fb (k : Int)) 1) = 0) r_139_130 (rfl) (fun h130 => ?_) (fun h130 => ?_)
      · refine gx_li (z := (k : Int) + 1) (L' := [(2, 192), (0, (h : Int)), (0, (t : Int)), (0, (h : Int) + 1), (0, (b : Int)), (0, y), (0, (k : Int) + 1)]) r_139_168 rfl (w32_eq (by omega) (by omega) (by omega)) rfl ?_
        refine gx_st (L' := [(2, 192), (0, (h : Int)), (0, (t : Int)), (0, (h : Int) + 1), (0, (b : Int)), (0, y), (0, (k : Int) + 1)]) (S' := []) r_139_171 rfl rfl rfl ?_
        rw [show (k : Int) + 1 = ((k + 1 : Nat) : Int) from rfl]
        refine ih (k + 1) _ (by omega) (by omega) (BestOf_no hb (fun ck => ?_))
        obtain ⟨c1, c2⟩ := ck
        first
          | exact absurd c1 h130
          | exact absurd c2 h140
          | exact ⟨q, hq1, rfl, (show - w (48 + 2 * q) ≤ - w (48 + 2 * k) by omega)⟩
      · have h130 := Decidable.not_not.mp h130
        refine gx_st (L' := [(2, 192), (0, (h : Int)), (0, (t : Int)), (0, (h : Int) + 1), (0, (b : Int)), (0, y), (0, (k : Int))]) (S' := [(2, 192)]) r_139_133 rfl rfl rfl ?_
        refine gx_st (L' := [(2, 192), (0, (h : Int)), (0, (t : Int)), (0, (h : Int) + 1), (0, (b : Int)), (0, y), (0, (k : Int))]) (S' := [(0, (k : Int)), (2, 192)]) r_139_134 rfl rfl rfl ?_
        refine gx_ci (nx := 139) (S2 := []) (l_99 hT hp (k := k) (by omega)) r_139_136 rfl rfl rfl rfl rfl (rcv_v rfl (ty_192 hT) (by decide) rfl (by decide)) rfl (by decide) rfl (fun x136_3 n136_3 q136_3 => ?_)
        obtain ⟨e_x136_3, z_x136_3⟩ := q136_3
        obtain rfl := z_x136_3.symm
        rw [e_x136_3, (hE.2.2.2.2.2.2.2.2 k (by omega)).1]
        show GX T 3 139 139 [(2, 192), (0, (h : Int)), (0, (t : Int)), (0, (h : Int) + 1), (0, (b : Int)), (0, y), (0, (k : Int))] [(0, (w (47 + 2 * k)))] m Q
        refine gx_st (L' := [(2, 192), (0, (h : Int)), (0, (t : Int)), (0, (h : Int) + 1), (0, (b : Int)), (0, y), (0, (k : Int))]) (S' := [(0, (t : Int)), (0, (w (47 + 2 * k)))]) r_139_139 rfl rfl rfl ?_
        refine gx_ic (P := ¬ (w (47 + 2 * k)) = (t : Int)) r_139_140 (rfl) (fun h140 => ?_) (fun h140 => ?_)
        · refine gx_li (z := (k : Int) + 1) (L' := [(2, 192), (0, (h : Int)), (0, (t : Int)), (0, (h : Int) + 1), (0, (b : Int)), (0, y), (0, (k : Int) + 1)]) r_139_168 rfl (w32_eq (by omega) (by omega) (by omega)) rfl ?_
          refine gx_st (L' := [(2, 192), (0, (h : Int)), (0, (t : Int)), (0, (h : Int) + 1), (0, (b : Int)), (0, y), (0, (k : Int) + 1)]) (S' := []) r_139_171 rfl rfl rfl ?_
          rw [show (k : Int) + 1 = ((k + 1 : Nat) : Int) from rfl]
          refine ih (k + 1) _ (by omega) (by omega) (BestOf_no hb (fun ck => ?_))
          obtain ⟨c1, c2⟩ := ck
          first
            | exact absurd c1 h130
            | exact absurd c2 h140
            | exact ⟨q, hq1, rfl, (show - w (48 + 2 * q) ≤ - w (48 + 2 * k) by omega)⟩
        · have h140 := Decidable.not_not.mp h140
          refine gx_st (L' := [(2, 192), (0, (h : Int)), (0, (t : Int)), (0, (h : Int) + 1), (0, (b : Int)), (0, y), (0, (k : Int))]) (S' := [(0, y)]) r_139_143 rfl rfl rfl ?_
          refine gx_st (L' := [(2, 192), (0, (h : Int)), (0, (t : Int)), (0, (h : Int) + 1), (0, (b : Int)), (0, y), (0, (k : Int))]) (S' := [(0, (-1)), (0, y)]) r_139_145 rfl rfl rfl ?_
          refine gx_ic (P := y = (-1)) r_139_146 (rfl) (fun h146 => ?_) (fun h146 => ?_)
          · refine gx_st (L' := [(2, 192), (0, (h : Int)), (0, (t : Int)), (0, (h : Int) + 1), (0, (b : Int)), (0, y), (0, (k : Int))]) (S' := [(0, (k : Int))]) r_139_164 rfl rfl rfl ?_
            refine gx_st (L' := [(2, 192), (0, (h : Int)), (0, (t : Int)), (0, (h : Int) + 1), (0, (b : Int)), (0, (k : Int)), (0, (k : Int))]) (S' := []) r_139_166 rfl rfl rfl ?_
            refine gx_li (z := (k : Int) + 1) (L' := [(2, 192), (0, (h : Int)), (0, (t : Int)), (0, (h : Int) + 1), (0, (b : Int)), (0, (k : Int)), (0, (k : Int) + 1)]) r_139_168 rfl (w32_eq (by omega) (by omega) (by omega)) rfl ?_
            refine gx_st (L' := [(2, 192), (0, (h : Int)), (0, (t : Int)), (0, (h : Int) + 1), (0, (b : Int)), (0, (k : Int)), (0, (k : Int) + 1)]) (S' := []) r_139_171 rfl rfl rfl ?_
            rw [show (k : Int) + 1 = ((k + 1 : Nat) : Int) from rfl]
            refine ih (k + 1) _ (by omega) (by omega) (BestOf_new hb ⟨by omega, h140⟩ (fun i hi e => ?_))
            show - w (48 + 2 * k) < - w (48 + 2 * i)
            first
              | (exfalso; omega)
              | (have ei : i = q := by omega
                 rw [ei]; omega)
          · have hy2 : ∃ q : Nat, q < k ∧ y = (q : Int) := by
              rcases hb with z | ⟨q, q1, q2, q3, q4⟩
              · exact absurd z.1 h146
              · exact ⟨q, q1, q3⟩
            obtain ⟨q, hq1, hq2⟩ := hy2
            subst hq2
            show GX T 3 139 149 [(2, 192), (0, (h : Int)), (0, (t : Int)), (0, (h : Int) + 1), (0, (b : Int)), (0, (q : Int)), (0, (k : Int))] [] m Q
            refine gx_st (L' := [(2, 192), (0, (h : Int)), (0, (t : Int)), (0, (h : Int) + 1), (0, (b : Int)), (0, (q : Int)), (0, (k : Int))]) (S' := [(2, 192)]) r_139_149 rfl rfl rfl ?_
            refine gx_st (L' := [(2, 192), (0, (h : Int)), (0, (t : Int)), (0, (h : Int) + 1), (0, (b : Int)), (0, (q : Int)), (0, (k : Int))]) (S' := [(0, (k : Int)), (2, 192)]) r_139_150 rfl rfl rfl ?_
            refine gx_ci (nx := 155) (S2 := []) (l_138 hT hp (k := k) (by omega)) r_139_152 rfl rfl rfl rfl rfl (rcv_v rfl (ty_192 hT) (by decide) rfl (by decide)) rfl (by decide) rfl (fun x152_4 n152_4 q152_4 => ?_)
            obtain ⟨e_x152_4, z_x152_4⟩ := q152_4
            have y_x152_4 := z_x152_4.symm
            subst y_x152_4
            rw [e_x152_4, (hE.2.2.2.2.2.2.2.2 k (by omega)).2]
            show GX T 3 139 155 [(2, 192), (0, (h : Int)), (0, (t : Int)), (0, (h : Int) + 1), (0, (b : Int)), (0, (q : Int)), (0, (k : Int))] [(0, (w (48 + 2 * k)))] m Q
            refine gx_st (L' := [(2, 192), (0, (h : Int)), (0, (t : Int)), (0, (h : Int) + 1), (0, (b : Int)), (0, (q : Int)), (0, (k : Int))]) (S' := [(2, 192), (0, (w (48 + 2 * k)))]) r_139_155 rfl rfl rfl ?_
            refine gx_st (L' := [(2, 192), (0, (h : Int)), (0, (t : Int)), (0, (h : Int) + 1), (0, (b : Int)), (0, (q : Int)), (0, (k : Int))]) (S' := [(0, (q : Int)), (2, 192), (0, (w (48 + 2 * k)))]) r_139_156 rfl rfl rfl ?_
            refine gx_ci (nx := 161) (S2 := [(0, (w (48 + 2 * k)))]) (l_138 hT hp (k := q) (by omega)) r_139_158 rfl rfl rfl rfl rfl (rcv_v rfl (ty_192 hT) (by decide) rfl (by decide)) rfl (by decide) rfl (fun x158_5 n158_5 q158_5 => ?_)
            obtain ⟨e_x158_5, z_x158_5⟩ := q158_5
            have y_x158_5 := z_x158_5.symm
            subst y_x158_5
            rw [e_x158_5, (hE.2.2.2.2.2.2.2.2 q (by omega)).2]
            show GX T 3 139 161 [(2, 192), (0, (h : Int)), (0, (t : Int)), (0, (h : Int) + 1), (0, (b : Int)), (0, (q : Int)), (0, (k : Int))] [(0, (w (48 + 2 * q))), (0, (w (48 + 2 * k)))] m Q
            refine gx_ic (P := (w (48 + 2 * k)) ≤ (w (48 + 2 * q))) r_139_161 (rfl) (fun h161 => ?_) (fun h161 => ?_)
            · refine gx_li (z := (k : Int) + 1) (L' := [(2, 192), (0, (h : Int)), (0, (t : Int)), (0, (h : Int) + 1), (0, (b : Int)), (0, (q : Int)), (0, (k : Int) + 1)]) r_139_168 rfl (w32_eq (by omega) (by omega) (by omega)) rfl ?_
              refine gx_st (L' := [(2, 192), (0, (h : Int)), (0, (t : Int)), (0, (h : Int) + 1), (0, (b : Int)), (0, (q : Int)), (0, (k : Int) + 1)]) (S' := []) r_139_171 rfl rfl rfl ?_
              rw [show (k : Int) + 1 = ((k + 1 : Nat) : Int) from rfl]
              refine ih (k + 1) _ (by omega) (by omega) (BestOf_no hb (fun ck => ?_))
              obtain ⟨c1, c2⟩ := ck
              first
                | exact absurd c1 h130
                | exact absurd c2 h140
                | exact ⟨q, hq1, rfl, (show - w (48 + 2 * q) ≤ - w (48 + 2 * k) by omega)⟩
            · refine gx_st (L' := [(2, 192), (0, (h : Int)), (0, (t : Int)), (0, (h : Int) + 1), (0, (b : Int)), (0, (q : Int)), (0, (k : Int))]) (S' := [(0, (k : Int))]) r_139_164 rfl rfl rfl ?_
              refine gx_st (L' := [(2, 192), (0, (h : Int)), (0, (t : Int)), (0, (h : Int) + 1), (0, (b : Int)), (0, (k : Int)), (0, (k : Int))]) (S' := []) r_139_166 rfl rfl rfl ?_
              refine gx_li (z := (k : Int) + 1) (L' := [(2, 192), (0, (h : Int)), (0, (t : Int)), (0, (h : Int) + 1), (0, (b : Int)), (0, (k : Int)), (0, (k : Int) + 1)]) r_139_168 rfl (w32_eq (by omega) (by omega) (by omega)) rfl ?_
              refine gx_st (L' := [(2, 192), (0, (h : Int)), (0, (t : Int)), (0, (h : Int) + 1), (0, (b : Int)), (0, (k : Int)), (0, (k : Int) + 1)]) (S' := []) r_139_171 rfl rfl rfl ?_
              rw [show (k : Int) + 1 = ((k + 1 : Nat) : Int) from rfl]
              refine ih (k + 1) _ (by omega) (by omega) (BestOf_new hb ⟨by omega, h140⟩ (fun i hi e => ?_))
              show - w (48 + 2 * k) < - w (48 + 2 * i)
              first
                | (exfalso; omega)
                | (have ei : i = q := by omega
                   rw [ei]; omega)
theorem y_139 (hT : TT T) (hp : PinR m) {w : Wd} (hB : WB w) {nt : Int} (hE : EW nt m w) {h : Nat} (hh : h < 12) {s : Wd} (hr1 : RowR nt m (h + 1) s) {b : Nat} (hb : s 1 = (b : Int)) (hb7 : (b : Int) < w 7) (k2 : 0 ≤ s 2 ∧ s 2 ≤ 60) (k6 : ∀ b : Nat, b < 5 → 0 ≤ s (6 + b) ∧ s (6 + b) ≤ 600) (k22 : m 192 22 = s 16) (k204 : ∀ c : Nat, c < 5 → 0 ≤ m 204 c ∧ m 204 c ≤ 20) {t : Nat} : GX T 3 139 0 [(2, 192), (0, (h : Int)), (0, (t : Int)), (9, 0), (9, 0), (9, 0), (9, 0)] [] m (RV (fun m1 => HourP nt m m1 h s (carF w s (t : Int)) 3)) := by
  have b7 := hB.2.2.2.2.1
  refine gx_st (L' := [(2, 192), (0, (h : Int)), (0, (t : Int)), (9, 0), (9, 0), (9, 0), (9, 0)]) (S' := [(0, (h : Int))]) r_139_0 rfl rfl rfl ?_
  refine gx_st (L' := [(2, 192), (0, (h : Int)), (0, (t : Int)), (9, 0), (9, 0), (9, 0), (9, 0)]) (S' := [(0, 1), (0, (h : Int))]) r_139_1 rfl rfl rfl ?_
  refine gx_ar (L' := [(2, 192), (0, (h : Int)), (0, (t : Int)), (9, 0), (9, 0), (9, 0), (9, 0)]) (S' := []) (t := 0) (e := w32 ((h : Int) + 1)) (z := (h : Int) + 1) r_139_2 rfl rfl rfl (w32_eq (by omega) (by omega) (by omega)) ?_
  refine gx_st (L' := [(2, 192), (0, (h : Int)), (0, (t : Int)), (0, (h : Int) + 1), (9, 0), (9, 0), (9, 0)]) (S' := []) r_139_3 rfl rfl rfl ?_
  refine gx_st (L' := [(2, 192), (0, (h : Int)), (0, (t : Int)), (0, (h : Int) + 1), (9, 0), (9, 0), (9, 0)]) (S' := [(2, 192)]) r_139_4 rfl rfl rfl ?_
  refine gx_st (L' := [(2, 192), (0, (h : Int)), (0, (t : Int)), (0, (h : Int) + 1), (9, 0), (9, 0), (9, 0)]) (S' := [(0, (h : Int) + 1), (2, 192)]) r_139_5 rfl rfl rfl ?_
  refine gx_st (L' := [(2, 192), (0, (h : Int)), (0, (t : Int)), (0, (h : Int) + 1), (9, 0), (9, 0), (9, 0)]) (S' := [(0, 1), (0, (h : Int) + 1), (2, 192)]) r_139_6 rfl rfl rfl ?_
  have c7_1 : m 200 (16 * h + 17) = (b : Int) := (by rw [show 16 * h + 17 = 16 * (h + 1) + 1 by omega]; exact (hr1.1.1 1 (by decide) (by decide)).trans hb)
  refine gx_ci (nx := 10) (S2 := []) (l_131 hT hp (h := h + 1) (k := 1) (i := 16 * h + 17) (by omega) (by omega)) r_139_7 rfl rfl rfl rfl rfl (rcv_v rfl (ty_192 hT) (by decide) rfl (by decide)) rfl (by decide) rfl (fun x7_1 n7_1 q7_1 => ?_)
  obtain ⟨e_x7_1, z_x7_1⟩ := q7_1
  have y_x7_1 := z_x7_1.symm
  subst y_x7_1
  rw [e_x7_1, c7_1]
  show GX T 3 139 10 [(2, 192), (0, (h : Int)), (0, (t : Int)), (0, (h : Int) + 1), (9, 0), (9, 0), (9, 0)] [(0, (b : Int))] m (RV (fun m1 => HourP nt m m1 h s (carF w s (t : Int)) 3))
  refine gx_st (L' := [(2, 192), (0, (h : Int)), (0, (t : Int)), (0, (h : Int) + 1), (0, (b : Int)), (9, 0), (9, 0)]) (S' := []) r_139_10 rfl rfl rfl ?_
  refine gx_st (L' := [(2, 192), (0, (h : Int)), (0, (t : Int)), (0, (h : Int) + 1), (0, (b : Int)), (9, 0), (9, 0)]) (S' := [(2, 192)]) r_139_12 rfl rfl rfl ?_
  refine gx_gf (x := 204) 2 r_139_13 (rfl) (ty_192 hT) ⟨by decide, rfl, by decide, by decide⟩ rfl (fun _ => by omega) (pin_at hp (t := 204) rfl (by decide)) ?_
  refine gx_st (L' := [(2, 192), (0, (h : Int)), (0, (t : Int)), (0, (h : Int) + 1), (0, (b : Int)), (9, 0), (9, 0)]) (S' := [(0, (b : Int)), (2, 204)]) r_139_16 rfl rfl rfl ?_
  refine gx_st (L' := [(2, 192), (0, (h : Int)), (0, (t : Int)), (0, (h : Int) + 1), (0, (b : Int)), (9, 0), (9, 0)]) (S' := [(0, (b : Int)), (2, 204), (0, (b : Int)), (2, 204)]) r_139_18 rfl rfl rfl ?_
  have k204b := k204 b (by omega)
  refine gx_ia (n := b) (x := (m 204 b)) r_139_19 (rfl) (ty_204 hT) (by omega) ⟨rfl, by omega⟩ (rfl) ?_
  refine gx_st (L' := [(2, 192), (0, (h : Int)), (0, (t : Int)), (0, (h : Int) + 1), (0, (b : Int)), (9, 0), (9, 0)]) (S' := [(0, 1), (0, (m 204 b)), (0, (b : Int)), (2, 204)]) r_139_20 rfl rfl rfl ?_
  refine gx_ar (L' := [(2, 192), (0, (h : Int)), (0, (t : Int)), (0, (h : Int) + 1), (0, (b : Int)), (9, 0), (9, 0)]) (S' := [(0, (b : Int)), (2, 204)]) (t := 0) (e := w32 ((m 204 b) + 1)) (z := (m 204 b) + 1) r_139_21 rfl rfl rfl (w32_eq (by omega) (by omega) (by omega)) ?_
  obtain ⟨m1, e_m1⟩ : ∃ z, z = nu_up m 204 b ((m 204 b) + 1) := ⟨_, rfl⟩
  have rw_m1 : RowW nt m1 (h + 1) s := roww_e hr1.1 (fun i _ _ => by rw [e_m1, nu_no (by decide)])
  refine gx_is (n := b) (x := (m 204 b) + 1) r_139_22 (rfl) (by omega) (ty_204 hT) (by omega) ⟨rfl, by omega⟩ e_m1.symm ?_
  refine gx_st (L' := [(2, 192), (0, (h : Int)), (0, (t : Int)), (0, (h : Int) + 1), (0, (b : Int)), (9, 0), (9, 0)]) (S' := [(2, 192)]) r_139_23 rfl rfl rfl ?_
  refine gx_gf (x := 201) 2 r_139_24 (rfl) (ty_192 hT) ⟨by decide, rfl, by decide, by decide⟩ rfl (fun _ => by omega) (by show m1 192 17 = _; rw [e_m1, nu_no (by decide)]; exact pin_at hp (t := 201) rfl (by decide)) ?_
  refine gx_st (L' := [(2, 192), (0, (h : Int)), (0, (t : Int)), (0, (h : Int) + 1), (0, (b : Int)), (9, 0), (9, 0)]) (S' := [(0, (h : Int)), (2, 201)]) r_139_27 rfl rfl rfl ?_
  refine gx_st (L' := [(2, 192), (0, (h : Int)), (0, (t : Int)), (0, (h : Int) + 1), (0, (b : Int)), (9, 0), (9, 0)]) (S' := [(0, 3), (0, (h : Int)), (2, 201)]) r_139_28 rfl rfl rfl ?_
  obtain ⟨m2, e_m2⟩ : ∃ z, z = nu_up m1 201 h 3 := ⟨_, rfl⟩
  have rw_m2 : RowW nt m2 (h + 1) s := roww_e rw_m1 (fun i _ _ => by rw [e_m2, nu_no (by decide)])
  refine gx_is (n := h) (x := 3) r_139_29 (rfl) (by omega) (ty_201 hT) (by omega) ⟨rfl, by omega⟩ e_m2.symm ?_
  refine gx_st (L' := [(2, 192), (0, (h : Int)), (0, (t : Int)), (0, (h : Int) + 1), (0, (b : Int)), (9, 0), (9, 0)]) (S' := [(2, 192)]) r_139_30 rfl rfl rfl ?_
  refine gx_st (L' := [(2, 192), (0, (h : Int)), (0, (t : Int)), (0, (h : Int) + 1), (0, (b : Int)), (9, 0), (9, 0)]) (S' := [(0, (h : Int) + 1), (2, 192)]) r_139_31 rfl rfl rfl ?_
  refine gx_st (L' := [(2, 192), (0, (h : Int)), (0, (t : Int)), (0, (h : Int) + 1), (0, (b : Int)), (9, 0), (9, 0)]) (S' := [(0, 0), (0, (h : Int) + 1), (2, 192)]) r_139_32 rfl rfl rfl ?_
  refine gx_st (L' := [(2, 192), (0, (h : Int)), (0, (t : Int)), (0, (h : Int) + 1), (0, (b : Int)), (9, 0), (9, 0)]) (S' := [(0, (t : Int)), (0, 0), (0, (h : Int) + 1), (2, 192)]) r_139_33 rfl rfl rfl ?_
  have pp_m2 : PinR m2 := by rw [e_m2, e_m1]; exact PinR_up (PinR_up hp rfl) rfl
  refine gx_cv (nx := 37) (S2 := []) (l_132 hT pp_m2 (h := h + 1) (k := 0) (i := 16 * h + 16) (by omega) (by omega) (t : Int)) r_139_34 rfl rfl rfl rfl rfl (rcv_v rfl (ty_192 hT) (by decide) rfl (by decide)) rfl (by decide) rfl (fun n34_2 q34_2 => ?_)
  have e_n34_2 : n34_2 = nu_up m2 200 (16 * h + 16) (t : Int) := q34_2
  have rw_n34_2 : RowW nt n34_2 (h + 1) (upw s 0 (t : Int)) := by rw [e_n34_2]; exact roww_f rw_m2 (k := 0) (by decide) (by omega)
  show GX T 3 139 37 [(2, 192), (0, (h : Int)), (0, (t : Int)), (0, (h : Int) + 1), (0, (b : Int)), (9, 0), (9, 0)] [] n34_2 (RV (fun m1 => HourP nt m m1 h s (carF w s (t : Int)) 3))
  refine gx_st (L' := [(2, 192), (0, (h : Int)), (0, (t : Int)), (0, (h : Int) + 1), (0, (b : Int)), (9, 0), (9, 0)]) (S' := [(2, 192)]) r_139_37 rfl rfl rfl ?_
  refine gx_st (L' := [(2, 192), (0, (h : Int)), (0, (t : Int)), (0, (h : Int) + 1), (0, (b : Int)), (9, 0), (9, 0)]) (S' := [(0, (h : Int) + 1), (2, 192)]) r_139_38 rfl rfl rfl ?_
  refine gx_st (L' := [(2, 192), (0, (h : Int)), (0, (t : Int)), (0, (h : Int) + 1), (0, (b : Int)), (9, 0), (9, 0)]) (S' := [(0, 6), (0, (h : Int) + 1), (2, 192)]) r_139_39 rfl rfl rfl ?_
  refine gx_st (L' := [(2, 192), (0, (h : Int)), (0, (t : Int)), (0, (h : Int) + 1), (0, (b : Int)), (9, 0), (9, 0)]) (S' := [(0, (b : Int)), (0, 6), (0, (h : Int) + 1), (2, 192)]) r_139_41 rfl rfl rfl ?_
  refine gx_ar (L' := [(2, 192), (0, (h : Int)), (0, (t : Int)), (0, (h : Int) + 1), (0, (b : Int)), (9, 0), (9, 0)]) (S' := [(0, (h : Int) + 1), (2, 192)]) (t := 0) (e := w32 (6 + (b : Int))) (z := (b : Int) + 6) r_139_43 rfl rfl rfl (w32_eq (by omega) (by omega) (by omega)) ?_
  refine gx_st (L' := [(2, 192), (0, (h : Int)), (0, (t : Int)), (0, (h : Int) + 1), (0, (b : Int)), (9, 0), (9, 0)]) (S' := [(2, 192), (0, (b : Int) + 6), (0, (h : Int) + 1), (2, 192)]) r_139_44 rfl rfl rfl ?_
  refine gx_st (L' := [(2, 192), (0, (h : Int)), (0, (t : Int)), (0, (h : Int) + 1), (0, (b : Int)), (9, 0), (9, 0)]) (S' := [(0, (h : Int) + 1), (2, 192), (0, (b : Int) + 6), (0, (h : Int) + 1), (2, 192)]) r_139_45 rfl rfl rfl ?_
  refine gx_st (L' := [(2, 192), (0, (h : Int)), (0, (t : Int)), (0, (h : Int) + 1), (0, (b : Int)), (9, 0), (9, 0)]) (S' := [(0, 6), (0, (h : Int) + 1), (2, 192), (0, (b : Int) + 6), (0, (h : Int) + 1), (2, 192)]) r_139_46 rfl rfl rfl ?_
  refine gx_st (L' := [(2, 192), (0, (h : Int)), (0, (t : Int)), (0, (h : Int) + 1), (0, (b : Int)), (9, 0), (9, 0)]) (S' := [(0, (b : Int)), (0, 6), (0, (h : Int) + 1), (2, 192), (0, (b : Int) + 6), (0, (h : Int) + 1), (2, 192)]) r_139_48 rfl rfl rfl ?_
  refine gx_ar (L' := [(2, 192), (0, (h : Int)), (0, (t : Int)), (0, (h : Int) + 1), (0, (b : Int)), (9, 0), (9, 0)]) (S' := [(0, (h : Int) + 1), (2, 192), (0, (b : Int) + 6), (0, (h : Int) + 1), (2, 192)]) (t := 0) (e := w32 (6 + (b : Int))) (z := (b : Int) + 6) r_139_50 rfl rfl rfl (w32_eq (by omega) (by omega) (by omega)) ?_
  have pp_n34_2 : PinR n34_2 := by rw [e_n34_2, e_m2, e_m1]; exact PinR_up (PinR_up (PinR_up hp rfl) rfl) rfl
  have c51_2 : n34_2 200 (16 * h + b + 22) = (s (6 + b)) := by show n34_2 200 (16 * h + b + 22) = _; rw [e_n34_2, nu_ne (by omega), e_m2, nu_no (by decide), e_m1, nu_no (by decide)]; exact (by rw [show 16 * h + b + 22 = 16 * (h + 1) + (6 + b) by omega]; exact hr1.1.2.1 b (by omega))
  refine gx_ci (nx := 54) (S2 := [(0, (b : Int) + 6), (0, (h : Int) + 1), (2, 192)]) (l_131 hT pp_n34_2 (h := h + 1) (k := b + 6) (i := 16 * h + b + 22) (by omega) (by omega)) r_139_51 rfl rfl rfl rfl rfl (rcv_v rfl (ty_192 hT) (by decide) rfl (by decide)) rfl (by decide) rfl (fun x51_3 n51_3 q51_3 => ?_)
  obtain ⟨e_x51_3, z_x51_3⟩ := q51_3
  have y_x51_3 := z_x51_3.symm
  subst y_x51_3
  rw [e_x51_3, c51_2]
  show GX T 3 139 54 [(2, 192), (0, (h : Int)), (0, (t : Int)), (0, (h : Int) + 1), (0, (b : Int)), (9, 0), (9, 0)] [(0, (s (6 + b))), (0, (b : Int) + 6), (0, (h : Int) + 1), (2, 192)] n34_2 (RV (fun m1 => HourP nt m m1 h s (carF w s (t : Int)) 3))
  refine gx_st (L' := [(2, 192), (0, (h : Int)), (0, (t : Int)), (0, (h : Int) + 1), (0, (b : Int)), (9, 0), (9, 0)]) (S' := [(2, 192), (0, (s (6 + b))), (0, (b : Int) + 6), (0, (h : Int) + 1), (2, 192)]) r_139_54 rfl rfl rfl ?_
  refine gx_st (L' := [(2, 192), (0, (h : Int)), (0, (t : Int)), (0, (h : Int) + 1), (0, (b : Int)), (9, 0), (9, 0)]) (S' := [(0, (h : Int) + 1), (2, 192), (0, (s (6 + b))), (0, (b : Int) + 6), (0, (h : Int) + 1), (2, 192)]) r_139_55 rfl rfl rfl ?_
  refine gx_st (L' := [(2, 192), (0, (h : Int)), (0, (t : Int)), (0, (h : Int) + 1), (0, (b : Int)), (9, 0), (9, 0)]) (S' := [(0, 2), (0, (h : Int) + 1), (2, 192), (0, (s (6 + b))), (0, (b : Int) + 6), (0, (h : Int) + 1), (2, 192)]) r_139_56 rfl rfl rfl ?_
  have pp_n34_2 : PinR n34_2 := by rw [e_n34_2, e_m2, e_m1]; exact PinR_up (PinR_up (PinR_up hp rfl) rfl) rfl
  have c57_3 : n34_2 200 (16 * h + 18) = (s 2) := by show n34_2 200 (16 * h + 18) = _; rw [e_n34_2, nu_ne (by omega), e_m2, nu_no (by decide), e_m1, nu_no (by decide)]; exact (by rw [show 16 * h + 18 = 16 * (h + 1) + 2 by omega]; exact hr1.1.1 2 (by decide) (by decide))
  refine gx_ci (nx := 60) (S2 := [(0, (s (6 + b))), (0, (b : Int) + 6), (0, (h : Int) + 1), (2, 192)]) (l_131 hT pp_n34_2 (h := h + 1) (k := 2) (i := 16 * h + 18) (by omega) (by omega)) r_139_57 rfl rfl rfl rfl rfl (rcv_v rfl (ty_192 hT) (by decide) rfl (by decide)) rfl (by decide) rfl (fun x57_4 n57_4 q57_4 => ?_)
  obtain ⟨e_x57_4, z_x57_4⟩ := q57_4
  have y_x57_4 := z_x57_4.symm
  subst y_x57_4
  rw [e_x57_4, c57_3]
  show GX T 3 139 60 [(2, 192), (0, (h : Int)), (0, (t : Int)), (0, (h : Int) + 1), (0, (b : Int)), (9, 0), (9, 0)] [(0, (s 2)), (0, (s (6 + b))), (0, (b : Int) + 6), (0, (h : Int) + 1), (2, 192)] n34_2 (RV (fun m1 => HourP nt m m1 h s (carF w s (t : Int)) 3))
  have k6b := k6 b (by omega)
  refine gx_ar (L' := [(2, 192), (0, (h : Int)), (0, (t : Int)), (0, (h : Int) + 1), (0, (b : Int)), (9, 0), (9, 0)]) (S' := [(0, (b : Int) + 6), (0, (h : Int) + 1), (2, 192)]) (t := 0) (e := w32 (((s (6 + b))) + (s 2))) (z := (s (6 + b)) + (s 2)) r_139_60 rfl rfl rfl (w32_eq (by omega) (by omega) (by omega)) ?_
  have pp_n34_2 : PinR n34_2 := by rw [e_n34_2, e_m2, e_m1]; exact PinR_up (PinR_up (PinR_up hp rfl) rfl) rfl
  refine gx_cv (nx := 64) (S2 := []) (l_132 hT pp_n34_2 (h := h + 1) (k := b + 6) (i := 16 * h + b + 22) (by omega) (by omega) ((s (6 + b)) + (s 2))) r_139_61 rfl rfl rfl rfl rfl (rcv_v rfl (ty_192 hT) (by decide) rfl (by decide)) rfl (by decide) rfl (fun n61_5 q61_5 => ?_)
  have e_n61_5 : n61_5 = nu_up n34_2 200 (16 * h + b + 22) ((s (6 + b)) + (s 2)) := q61_5
  have rw_n61_5 : RowW nt n61_5 (h + 1) (upw (upw s 0 (t : Int)) (6 + b) ((s (6 + b)) + (s 2))) := by rw [e_n61_5]; exact roww_t rw_n34_2 (b2 := b) (by omega) (by omega)
  show GX T 3 139 64 [(2, 192), (0, (h : Int)), (0, (t : Int)), (0, (h : Int) + 1), (0, (b : Int)), (9, 0), (9, 0)] [] n61_5 (RV (fun m1 => HourP nt m m1 h s (carF w s (t : Int)) 3))
  refine gx_st (L' := [(2, 192), (0, (h : Int)), (0, (t : Int)), (0, (h : Int) + 1), (0, (b : Int)), (9, 0), (9, 0)]) (S' := [(2, 192)]) r_139_64 rfl rfl rfl ?_
  refine gx_st (L' := [(2, 192), (0, (h : Int)), (0, (t : Int)), (0, (h : Int) + 1), (0, (b : Int)), (9, 0), (9, 0)]) (S' := [(0, (h : Int) + 1), (2, 192)]) r_139_65 rfl rfl rfl ?_
  refine gx_st (L' := [(2, 192), (0, (h : Int)), (0, (t : Int)), (0, (h : Int) + 1), (0, (b : Int)), (9, 0), (9, 0)]) (S' := [(0, 6), (0, (h : Int) + 1), (2, 192)]) r_139_66 rfl rfl rfl ?_
  refine gx_st (L' := [(2, 192), (0, (h : Int)), (0, (t : Int)), (0, (h : Int) + 1), (0, (b : Int)), (9, 0), (9, 0)]) (S' := [(0, (b : Int)), (0, 6), (0, (h : Int) + 1), (2, 192)]) r_139_68 rfl rfl rfl ?_
  refine gx_ar (L' := [(2, 192), (0, (h : Int)), (0, (t : Int)), (0, (h : Int) + 1), (0, (b : Int)), (9, 0), (9, 0)]) (S' := [(0, (h : Int) + 1), (2, 192)]) (t := 0) (e := w32 (6 + (b : Int))) (z := (b : Int) + 6) r_139_70 rfl rfl rfl (w32_eq (by omega) (by omega) (by omega)) ?_
  have pp_n61_5 : PinR n61_5 := by rw [e_n61_5, e_n34_2, e_m2, e_m1]; exact PinR_up (PinR_up (PinR_up (PinR_up hp rfl) rfl) rfl) rfl
  have c71_4 : n61_5 200 (16 * h + b + 22) = (s (6 + b)) + (s 2) := by show n61_5 200 (16 * h + b + 22) = _; rw [e_n61_5, nu_at]
  refine gx_ci (nx := 74) (S2 := []) (l_131 hT pp_n61_5 (h := h + 1) (k := b + 6) (i := 16 * h + b + 22) (by omega) (by omega)) r_139_71 rfl rfl rfl rfl rfl (rcv_v rfl (ty_192 hT) (by decide) rfl (by decide)) rfl (by decide) rfl (fun x71_6 n71_6 q71_6 => ?_)
  obtain ⟨e_x71_6, z_x71_6⟩ := q71_6
  have y_x71_6 := z_x71_6.symm
  subst y_x71_6
  rw [e_x71_6, c71_4]
  show GX T 3 139 74 [(2, 192), (0, (h : Int)), (0, (t : Int)), (0, (h : Int) + 1), (0, (b : Int)), (9, 0), (9, 0)] [(0, (s (6 + b)) + (s 2))] n61_5 (RV (fun m1 => HourP nt m m1 h s (carF w s (t : Int)) 3))
  refine gx_st (L' := [(2, 192), (0, (h : Int)), (0, (t : Int)), (0, (h : Int) + 1), (0, (b : Int)), (9, 0), (9, 0)]) (S' := [(2, 192), (0, (s (6 + b)) + (s 2))]) r_139_74 rfl rfl rfl ?_
  refine gx_st (L' := [(2, 192), (0, (h : Int)), (0, (t : Int)), (0, (h : Int) + 1), (0, (b : Int)), (9, 0), (9, 0)]) (S' := [(0, (b : Int)), (2, 192), (0, (s (6 + b)) + (s 2))]) r_139_75 rfl rfl rfl ?_
  have ew_n61_5 : EW nt n61_5 w := ew_e hE (fun i => by rw [e_n61_5, nu_x (by omega), e_n34_2, nu_x (by omega), e_m2, nu_x (by omega), e_m1, nu_x (by omega)]) (fun i u1 u2 => by rw [e_n61_5, nu_x (by omega), e_n34_2, nu_x (by omega), e_m2, nu_x (by omega), e_m1, nu_x (by omega)])
  have pp_n61_5 : PinR n61_5 := by rw [e_n61_5, e_n34_2, e_m2, e_m1]; exact PinR_up (PinR_up (PinR_up (PinR_up hp rfl) rfl) rfl) rfl
  refine gx_ci (nx := 80) (S2 := [(0, (s (6 + b)) + (s 2))]) (l_138 hT pp_n61_5 (k := b) (by omega)) r_139_77 rfl rfl rfl rfl rfl (rcv_v rfl (ty_192 hT) (by decide) rfl (by decide)) rfl (by decide) rfl (fun x77_7 n77_7 q77_7 => ?_)
  obtain ⟨e_x77_7, z_x77_7⟩ := q77_7
  have y_x77_7 := z_x77_7.symm
  subst y_x77_7
  rw [e_x77_7, (ew_n61_5.2.2.2.2.2.2.2.2 b (by omega)).2]
  show GX T 3 139 80 [(2, 192), (0, (h : Int)), (0, (t : Int)), (0, (h : Int) + 1), (0, (b : Int)), (9, 0), (9, 0)] [(0, (w (48 + 2 * b))), (0, (s (6 + b)) + (s 2))] n61_5 (RV (fun m1 => HourP nt m m1 h s (carF w s (t : Int)) 3))
  refine gx_ic (P := (w (48 + 2 * b)) < (s (6 + b)) + (s 2)) r_139_80 (rfl) (fun h80 => ?_) (fun h80 => ?_)
  · refine gx_st (L' := [(2, 192), (0, (h : Int)), (0, (t : Int)), (0, (h : Int) + 1), (0, (b : Int)), (9, 0), (9, 0)]) (S' := [(2, 192)]) r_139_84 rfl rfl rfl ?_
    refine gx_st (L' := [(2, 192), (0, (h : Int)), (0, (t : Int)), (0, (h : Int) + 1), (0, (b : Int)), (9, 0), (9, 0)]) (S' := [(0, (h : Int) + 1), (2, 192)]) r_139_85 rfl rfl rfl ?_
    refine gx_st (L' := [(2, 192), (0, (h : Int)), (0, (t : Int)), (0, (h : Int) + 1), (0, (b : Int)), (9, 0), (9, 0)]) (S' := [(0, 5), (0, (h : Int) + 1), (2, 192)]) r_139_86 rfl rfl rfl ?_
    refine gx_st (L' := [(2, 192), (0, (h : Int)), (0, (t : Int)), (0, (h : Int) + 1), (0, (b : Int)), (9, 0), (9, 0)]) (S' := [(2, 192), (0, 5), (0, (h : Int) + 1), (2, 192)]) r_139_87 rfl rfl rfl ?_
    refine gx_st (L' := [(2, 192), (0, (h : Int)), (0, (t : Int)), (0, (h : Int) + 1), (0, (b : Int)), (9, 0), (9, 0)]) (S' := [(0, (h : Int) + 1), (2, 192), (0, 5), (0, (h : Int) + 1), (2, 192)]) r_139_88 rfl rfl rfl ?_
    refine gx_st (L' := [(2, 192), (0, (h : Int)), (0, (t : Int)), (0, (h : Int) + 1), (0, (b : Int)), (9, 0), (9, 0)]) (S' := [(0, 5), (0, (h : Int) + 1), (2, 192), (0, 5), (0, (h : Int) + 1), (2, 192)]) r_139_89 rfl rfl rfl ?_
    have pp_n61_5 : PinR n61_5 := by rw [e_n61_5, e_n34_2, e_m2, e_m1]; exact PinR_up (PinR_up (PinR_up (PinR_up hp rfl) rfl) rfl) rfl
    have c90_5 : n61_5 200 (16 * h + 21) = (s 5) := by show n61_5 200 (16 * h + 21) = _; rw [e_n61_5, nu_ne (by omega), e_n34_2, nu_ne (by omega), e_m2, nu_no (by decide), e_m1, nu_no (by decide)]; exact (by rw [show 16 * h + 21 = 16 * (h + 1) + 5 by omega]; exact hr1.1.1 5 (by decide) (by decide))
    refine gx_ci (nx := 93) (S2 := [(0, 5), (0, (h : Int) + 1), (2, 192)]) (l_131 hT pp_n61_5 (h := h + 1) (k := 5) (i := 16 * h + 21) (by omega) (by omega)) r_139_90 rfl rfl rfl rfl rfl (rcv_v rfl (ty_192 hT) (by decide) rfl (by decide)) rfl (by decide) rfl (fun x90_8 n90_8 q90_8 => ?_)
    obtain ⟨e_x90_8, z_x90_8⟩ := q90_8
    have y_x90_8 := z_x90_8.symm
    subst y_x90_8
    rw [e_x90_8, c90_5]
    show GX T 3 139 93 [(2, 192), (0, (h : Int)), (0, (t : Int)), (0, (h : Int) + 1), (0, (b : Int)), (9, 0), (9, 0)] [(0, (s 5)), (0, 5), (0, (h : Int) + 1), (2, 192)] n61_5 (RV (fun m1 => HourP nt m m1 h s (carF w s (t : Int)) 3))
    refine gx_st (L' := [(2, 192), (0, (h : Int)), (0, (t : Int)), (0, (h : Int) + 1), (0, (b : Int)), (9, 0), (9, 0)]) (S' := [(0, 1), (0, (s 5)), (0, 5), (0, (h : Int) + 1), (2, 192)]) r_139_93 rfl rfl rfl ?_
    refine gx_st (L' := [(2, 192), (0, (h : Int)), (0, (t : Int)), (0, (h : Int) + 1), (0, (b : Int)), (9, 0), (9, 0)]) (S' := [(0, (b : Int)), (0, 1), (0, (s 5)), (0, 5), (0, (h : Int) + 1), (2, 192)]) r_139_94 rfl rfl rfl ?_
    refine gx_st (L' := [(2, 192), (0, (h : Int)), (0, (t : Int)), (0, (h : Int) + 1), (0, (b : Int)), (9, 0), (9, 0)]) (S' := [(0, (ishl 1 (b : Int))), (0, (s 5)), (0, 5), (0, (h : Int) + 1), (2, 192)]) r_139_96 rfl rfl rfl ?_
    refine gx_st (L' := [(2, 192), (0, (h : Int)), (0, (t : Int)), (0, (h : Int) + 1), (0, (b : Int)), (9, 0), (9, 0)]) (S' := [(0, (ior (s 5) ((ishl 1 (b : Int))))), (0, 5), (0, (h : Int) + 1), (2, 192)]) r_139_97 rfl rfl rfl ?_
    have pp_n61_5 : PinR n61_5 := by rw [e_n61_5, e_n34_2, e_m2, e_m1]; exact PinR_up (PinR_up (PinR_up (PinR_up hp rfl) rfl) rfl) rfl
    refine gx_cv (nx := 101) (S2 := []) (l_132 hT pp_n61_5 (h := h + 1) (k := 5) (i := 16 * h + 21) (by omega) (by omega) ((ior (s 5) ((ishl 1 (b : Int)))))) r_139_98 rfl rfl rfl rfl rfl (rcv_v rfl (ty_192 hT) (by decide) rfl (by decide)) rfl (by decide) rfl (fun n98_9 q98_9 => ?_)
    have e_n98_9 : n98_9 = nu_up n61_5 200 (16 * h + 21) ((ior (s 5) ((ishl 1 (b : Int))))) := q98_9
    have rw_n98_9 : RowW nt n98_9 (h + 1) (upw (upw (upw s 0 (t : Int)) (6 + b) ((s (6 + b)) + (s 2))) 5 ((ior (s 5) ((ishl 1 (b : Int)))))) := by rw [e_n98_9]; exact roww_f rw_n61_5 (k := 5) (by decide) (by omega)
    show GX T 3 139 101 [(2, 192), (0, (h : Int)), (0, (t : Int)), (0, (h : Int) + 1), (0, (b : Int)), (9, 0), (9, 0)] [] n98_9 (RV (fun m1 => HourP nt m m1 h s (carF w s (t : Int)) 3))
    refine gx_st (L' := [(2, 192), (0, (h : Int)), (0, (t : Int)), (0, (h : Int) + 1), (0, (b : Int)), (9, 0), (9, 0)]) (S' := [(0, (-1))]) r_139_101 rfl rfl rfl ?_
    refine gx_st (L' := [(2, 192), (0, (h : Int)), (0, (t : Int)), (0, (h : Int) + 1), (0, (b : Int)), (0, (-1)), (9, 0)]) (S' := []) r_139_102 rfl rfl rfl ?_
    refine gx_st (L' := [(2, 192), (0, (h : Int)), (0, (t : Int)), (0, (h : Int) + 1), (0, (b : Int)), (0, (-1)), (9, 0)]) (S' := [(0, 0)]) r_139_104 rfl rfl rfl ?_
    refine gx_st (L' := [(2, 192), (0, (h : Int)), (0, (t : Int)), (0, (h : Int) + 1), (0, (b : Int)), (0, (-1)), (0, 0)]) (S' := []) r_139_105 rfl rfl rfl ?_
    have ew_n98_9 : EW nt n98_9 w := ew_e hE (fun i => by rw [e_n98_9, nu_x (by omega), e_n61_5, nu_x (by omega), e_n34_2, nu_x (by omega), e_m2, nu_x (by omega), e_m1, nu_x (by omega)]) (fun i u1 u2 => by rw [e_n98_9, nu_x (by omega), e_n61_5, nu_x (by omega), e_n34_2, nu_x (by omega), e_m2, nu_x (by omega), e_m1, nu_x (by omega)])
    have pp_n98_9 : PinR n98_9 := by rw [e_n98_9, e_n61_5, e_n34_2, e_m2, e_m1]; exact PinR_up (PinR_up (PinR_up (PinR_up (PinR_up hp rfl) rfl) rfl) rfl) rfl
    have hfb : n98_9 200 (16 * h + 21) = (ior (s 5) ((ishl 1 (b : Int)))) := by rw [e_n98_9, nu_at]
    refine cb_l hT pp_n98_9 hB ew_n98_9 hh hfb (c := (w 7).toNat) (by omega) (fun y hy => ?_) ((w 7).toNat + 1) 0 (-1) (by omega) (by omega) BestOf_0
    have hyF : y = strongF w (t : Int) ((ior (s 5) ((ishl 1 (b : Int))))) := BestOf_eq hy (bestF_of _ _ _) (fun i hi => by
        show (iand (ishr ((ior (s 5) ((ishl 1 (b : Int))))) (i : Int)) 1 = 0 ∧ w (47 + 2 * i) = (t : Int)) ↔ _
        rw [iand_01]
        exact bs_iff bitF_i) (fun i _ _ => rfl)
    refine gx_st (L' := [(2, 192), (0, (h : Int)), (0, (t : Int)), (0, (h : Int) + 1), (0, (b : Int)), (0, y), (0, (((w 7).toNat : Nat) : Int))]) (S' := [(2, 192)]) r_139_174 rfl rfl rfl ?_
    refine gx_st (L' := [(2, 192), (0, (h : Int)), (0, (t : Int)), (0, (h : Int) + 1), (0, (b : Int)), (0, y), (0, (((w 7).toNat : Nat) : Int))]) (S' := [(0, (h : Int) + 1), (2, 192)]) r_139_175 rfl rfl rfl ?_
    refine gx_st (L' := [(2, 192), (0, (h : Int)), (0, (t : Int)), (0, (h : Int) + 1), (0, (b : Int)), (0, y), (0, (((w 7).toNat : Nat) : Int))]) (S' := [(0, 1), (0, (h : Int) + 1), (2, 192)]) r_139_176 rfl rfl rfl ?_
    refine gx_st (L' := [(2, 192), (0, (h : Int)), (0, (t : Int)), (0, (h : Int) + 1), (0, (b : Int)), (0, y), (0, (((w 7).toNat : Nat) : Int))]) (S' := [(0, y), (0, 1), (0, (h : Int) + 1), (2, 192)]) r_139_177 rfl rfl rfl ?_
    have pp_n98_9 : PinR n98_9 := by rw [e_n98_9, e_n61_5, e_n34_2, e_m2, e_m1]; exact PinR_up (PinR_up (PinR_up (PinR_up (PinR_up hp rfl) rfl) rfl) rfl) rfl
    refine gx_cv (nx := 182) (S2 := []) (l_132 hT pp_n98_9 (h := h + 1) (k := 1) (i := 16 * h + 17) (by omega) (by omega) y) r_139_179 rfl rfl rfl rfl rfl (rcv_v rfl (ty_192 hT) (by decide) rfl (by decide)) rfl (by decide) rfl (fun n179_10 q179_10 => ?_)
    have e_n179_10 : n179_10 = nu_up n98_9 200 (16 * h + 17) y := q179_10
    have rw_n179_10 : RowW nt n179_10 (h + 1) (upw (upw (upw (upw s 0 (t : Int)) (6 + b) ((s (6 + b)) + (s 2))) 5 ((ior (s 5) ((ishl 1 (b : Int)))))) 1 y) := by rw [e_n179_10]; exact roww_f rw_n98_9 (k := 1) (by decide) (by omega)
    show GX T 3 139 182 [(2, 192), (0, (h : Int)), (0, (t : Int)), (0, (h : Int) + 1), (0, (b : Int)), (0, y), (0, (((w 7).toNat : Nat) : Int))] [] n179_10 (RV (fun m1 => HourP nt m m1 h s (carF w s (t : Int)) 3))
    refine gx_st (L' := [(2, 192), (0, (h : Int)), (0, (t : Int)), (0, (h : Int) + 1), (0, (b : Int)), (0, y), (0, (((w 7).toNat : Nat) : Int))]) (S' := [(0, y)]) r_139_182 rfl rfl rfl ?_
    refine gx_st (L' := [(2, 192), (0, (h : Int)), (0, (t : Int)), (0, (h : Int) + 1), (0, (b : Int)), (0, y), (0, (((w 7).toNat : Nat) : Int))]) (S' := [(0, (-1)), (0, y)]) r_139_184 rfl rfl rfl ?_
    refine gx_ic (P := ¬ y = (-1)) r_139_185 (rfl) (fun h185 => ?_) (fun h185 => ?_)
    · have c204 : ∀ c : Nat, c < 5 → n179_10 204 c = m 204 c + (if (b : Int) = (c : Int) then 1 else 0) := fun c hc => by
        rw [e_n179_10, nu_no (by decide), e_n98_9, nu_no (by decide), e_n61_5, nu_no (by decide), e_n34_2, nu_no (by decide), e_m2, nu_no (by decide)]
        by_cases e : c = b
        · rw [e, e_m1, nu_at, if_pos rfl]
        · rw [e_m1, nu_ne e, if_neg (by omega)]; omega
      exact gx_rt r_139_194 rfl rfl ⟨rfl, carp_ch hb (by omega) (by omega) hyF h185 k22 (by rw [show 16 * h + 19 = 16 * (h + 1) + 3 by omega]; exact hr1.2 (by omega)) rw_n179_10 (show n179_10 200 (16 * h + 19) = m 200 (16 * h + 19) from by rw [e_n179_10, nu_ne (by omega), e_n98_9, nu_ne (by omega), e_n61_5, nu_ne (by omega), e_n34_2, nu_ne (by omega), e_m2, nu_no (by decide), e_m1, nu_no (by decide)]) (by show n179_10 201 h = _; rw [e_n179_10, nu_no (by decide), e_n98_9, nu_no (by decide), e_n61_5, nu_no (by decide), e_n34_2, nu_no (by decide), e_m2, nu_at]) (by show n179_10 192 21 = _; rw [e_n179_10, nu_no (by decide), e_n98_9, nu_no (by decide), e_n61_5, nu_no (by decide), e_n34_2, nu_no (by decide), e_m2, nu_no (by decide), e_m1, nu_no (by decide)]) (by show n179_10 192 22 = _; rw [e_n179_10, nu_no (by decide), e_n98_9, nu_no (by decide), e_n61_5, nu_no (by decide), e_n34_2, nu_no (by decide), e_m2, nu_no (by decide), e_m1, nu_no (by decide)]) c204 (fun p i x1 x2 x3 x4 x5 => by rw [e_n179_10, nu_x (by omega), e_n98_9, nu_x (by omega), e_n61_5, nu_x (by omega), e_n34_2, nu_x (by omega), e_m2, nu_x (by omega), e_m1, nu_x (by omega)])⟩
    · have h185 := Decidable.not_not.mp h185
      refine gx_st (L' := [(2, 192), (0, (h : Int)), (0, (t : Int)), (0, (h : Int) + 1), (0, (b : Int)), (0, y), (0, (((w 7).toNat : Nat) : Int))]) (S' := [(2, 192)]) r_139_188 rfl rfl rfl ?_
      refine gx_st (L' := [(2, 192), (0, (h : Int)), (0, (t : Int)), (0, (h : Int) + 1), (0, (b : Int)), (0, y), (0, (((w 7).toNat : Nat) : Int))]) (S' := [(0, (h : Int)), (2, 192)]) r_139_189 rfl rfl rfl ?_
      refine gx_st (L' := [(2, 192), (0, (h : Int)), (0, (t : Int)), (0, (h : Int) + 1), (0, (b : Int)), (0, y), (0, (((w 7).toNat : Nat) : Int))]) (S' := [(0, 0), (0, (h : Int)), (2, 192)]) r_139_190 rfl rfl rfl ?_
      have pp_n179_10 : PinR n179_10 := by rw [e_n179_10, e_n98_9, e_n61_5, e_n34_2, e_m2, e_m1]; exact PinR_up (PinR_up (PinR_up (PinR_up (PinR_up (PinR_up hp rfl) rfl) rfl) rfl) rfl) rfl
      refine gx_cv (nx := 194) (S2 := []) (y_140 hT pp_n179_10 (h := h) (by omega) 0) r_139_191 rfl rfl rfl rfl rfl (rcv_v rfl (ty_192 hT) (by decide) rfl (by decide)) rfl (by decide) rfl (fun n191_11 q191_11 => ?_)
      obtain ⟨o1_n191_11, e_o1_n191_11⟩ : ∃ z, z = nu_up n179_10 192 21 (h : Int) := ⟨_, rfl⟩
      obtain ⟨o2_n191_11, e_o2_n191_11⟩ : ∃ z, z = nu_up o1_n191_11 192 22 0 := ⟨_, rfl⟩
      obtain ⟨o3_n191_11, e_o3_n191_11⟩ : ∃ z, z = nu_up o2_n191_11 200 (16 * h + 16) (-1) := ⟨_, rfl⟩
      have e_n191_11 : n191_11 = nu_up o3_n191_11 200 (16 * h + 17) (-1) := by rw [q191_11, e_o3_n191_11, e_o2_n191_11, e_o1_n191_11]
      have rw_o1_n191_11 : RowW nt o1_n191_11 (h + 1) (upw (upw (upw (upw s 0 (t : Int)) (6 + b) ((s (6 + b)) + (s 2))) 5 ((ior (s 5) ((ishl 1 (b : Int)))))) 1 y) := roww_e rw_n179_10 (fun i _ _ => by rw [e_o1_n191_11, nu_no (by decide)])
      have rw_o2_n191_11 : RowW nt o2_n191_11 (h + 1) (upw (upw (upw (upw s 0 (t : Int)) (6 + b) ((s (6 + b)) + (s 2))) 5 ((ior (s 5) ((ishl 1 (b : Int)))))) 1 y) := roww_e rw_o1_n191_11 (fun i _ _ => by rw [e_o2_n191_11, nu_no (by decide)])
      have rw_o3_n191_11 : RowW nt o3_n191_11 (h + 1) (upw (upw (upw (upw (upw s 0 (t : Int)) (6 + b) ((s (6 + b)) + (s 2))) 5 ((ior (s 5) ((ishl 1 (b : Int)))))) 1 y) 0 (-1)) := by rw [e_o3_n191_11]; exact roww_f rw_o2_n191_11 (k := 0) (by decide) (by omega)
      have rw_n191_11 : RowW nt n191_11 (h + 1) (upw (upw (upw (upw (upw (upw s 0 (t : Int)) (6 + b) ((s (6 + b)) + (s 2))) 5 ((ior (s 5) ((ishl 1 (b : Int)))))) 1 y) 0 (-1)) 1 (-1)) := by rw [e_n191_11]; exact roww_f rw_o3_n191_11 (k := 1) (by decide) (by omega)
      show GX T 3 139 194 [(2, 192), (0, (h : Int)), (0, (t : Int)), (0, (h : Int) + 1), (0, (b : Int)), (0, y), (0, (((w 7).toNat : Nat) : Int))] [] n191_11 (RV (fun m1 => HourP nt m m1 h s (carF w s (t : Int)) 3))
      have c204 : ∀ c : Nat, c < 5 → n191_11 204 c = m 204 c + (if (b : Int) = (c : Int) then 1 else 0) := fun c hc => by
        rw [e_n191_11, nu_no (by decide), e_o3_n191_11, nu_no (by decide), e_o2_n191_11, nu_no (by decide), e_o1_n191_11, nu_no (by decide), e_n179_10, nu_no (by decide), e_n98_9, nu_no (by decide), e_n61_5, nu_no (by decide), e_n34_2, nu_no (by decide), e_m2, nu_no (by decide)]
        by_cases e : c = b
        · rw [e, e_m1, nu_at, if_pos rfl]
        · rw [e_m1, nu_ne e, if_neg (by omega)]; omega
      exact gx_rt r_139_194 rfl rfl ⟨rfl, carp_no hb (by omega) hyF h185 rw_n191_11 (by show n191_11 201 h = _; rw [e_n191_11, nu_no (by decide), e_o3_n191_11, nu_no (by decide), e_o2_n191_11, nu_no (by decide), e_o1_n191_11, nu_no (by decide), e_n179_10, nu_no (by decide), e_n98_9, nu_no (by decide), e_n61_5, nu_no (by decide), e_n34_2, nu_no (by decide), e_m2, nu_at]) (by show n191_11 192 21 = _; rw [e_n191_11, nu_no (by decide), e_o3_n191_11, nu_no (by decide), e_o2_n191_11, nu_ne (by decide), e_o1_n191_11, nu_at]) (by show n191_11 192 22 = _; rw [e_n191_11, nu_no (by decide), e_o3_n191_11, nu_no (by decide), e_o2_n191_11, nu_at]) c204 (fun p i x1 x2 x3 x4 x5 => by rw [e_n191_11, nu_x (by omega), e_o3_n191_11, nu_x (by omega), e_o2_n191_11, nu_x (by omega), e_o1_n191_11, nu_x (by omega), e_n179_10, nu_x (by omega), e_n98_9, nu_x (by omega), e_n61_5, nu_x (by omega), e_n34_2, nu_x (by omega), e_m2, nu_x (by omega), e_m1, nu_x (by omega)])⟩
  · have c204 : ∀ c : Nat, c < 5 → n61_5 204 c = m 204 c + (if (b : Int) = (c : Int) then 1 else 0) := fun c hc => by
      rw [e_n61_5, nu_no (by decide), e_n34_2, nu_no (by decide), e_m2, nu_no (by decide)]
      by_cases e : c = b
      · rw [e, e_m1, nu_at, if_pos rfl]
      · rw [e_m1, nu_ne e, if_neg (by omega)]; omega
    exact gx_rt r_139_83 rfl rfl ⟨rfl, carp_lo (o3 := 0) hb (by omega) (by omega) k22 (by rw [show 16 * h + 19 = 16 * (h + 1) + 3 by omega]; exact hr1.2 (by omega)) rw_n61_5 (show n61_5 200 (16 * h + 19) = m 200 (16 * h + 19) from by rw [e_n61_5, nu_ne (by omega), e_n34_2, nu_ne (by omega), e_m2, nu_no (by decide), e_m1, nu_no (by decide)]) (by show n61_5 201 h = _; rw [e_n61_5, nu_no (by decide), e_n34_2, nu_no (by decide), e_m2, nu_at]) (by show n61_5 192 21 = _; rw [e_n61_5, nu_no (by decide), e_n34_2, nu_no (by decide), e_m2, nu_no (by decide), e_m1, nu_no (by decide)]) (by show n61_5 192 22 = _; rw [e_n61_5, nu_no (by decide), e_n34_2, nu_no (by decide), e_m2, nu_no (by decide), e_m1, nu_no (by decide)]) c204 (fun p i x1 x2 x3 x4 x5 => by rw [e_n61_5, nu_x (by omega), e_n34_2, nu_x (by omega), e_m2, nu_x (by omega), e_m1, nu_x (by omega)])⟩
theorem go_l (hT : TT T) (hp : PinR m) {w : Wd} (hB : WB w) {nt : Int} (hE : EW nt m w) {D : Nat → Nat → Int} (eD : ∀ a b : Nat, a < 7 → b < 7 → m 199 (7 * a + b) = D a b) {h p t g q0 : Nat} (hp7 : p < 7) (ht5 : t < 5) (hg : w (31 + 2 * t) = (g : Int)) (hg7 : g < 7) (q07 : q0 < 7) (hDg : 0 ≤ D p g ∧ D p g ≤ 1000000000) (hq0 : (fun q : Nat => D p q = 1 ∧ D q g = D p g - 1) q0) {Q : AV → Mm → Prop} (hout : ∀ q : Nat, q < 7 → (fun q : Nat => D p q = 1 ∧ D q g = D p g - 1) q → (∀ j : Nat, j < q → ¬ (fun q : Nat => D p q = 1 ∧ D q g = D p g - 1) j) → GX T 4 141 173 [(2, 192), (0, (h : Int)), (0, (h : Int) + 1), (0, (p : Int)), (0, (t : Int)), (0, (q : Int))] [] m Q) : ∀ (N k : Nat), q0 + 1 - k < N → k ≤ q0 → (∀ j : Nat, j < k → ¬ (fun q : Nat => D p q = 1 ∧ D q g = D p g - 1) j) → GX T 4 141 128 [(2, 192), (0, (h : Int)), (0, (h : Int) + 1), (0, (p : Int)), (0, (t : Int)), (0, (k : Int))] [] m Q := by
  intro N
  induction N with
  | zero => intro k hN; exact absurd hN (Nat.not_lt_zero _)
  | succ N ih =>
    intro k hN hk hI
    refine gx_st (L' := [(2, 192), (0, (h : Int)), (0, (h : Int) + 1), (0, (p : Int)), (0, (t : Int)), (0, (k : Int))]) (S' := [(2, 192)]) r_141_128 rfl rfl rfl ?_
    refine gx_st (L' := [(2, 192), (0, (h : Int)), (0, (h : Int) + 1), (0, (p : Int)), (0, (t : Int)), (0, (k : Int))]) (S' := [(0, (p : Int)), (2, 192)]) r_141_129 rfl rfl rfl ?_
    refine gx_st (L' := [(2, 192), (0, (h : Int)), (0, (h : Int) + 1), (0, (p : Int)), (0, (t : Int)), (0, (k : Int))]) (S' := [(0, (k : Int)), (0, (p : Int)), (2, 192)]) r_141_130 rfl rfl rfl ?_
    refine gx_ci (nx := 135) (S2 := []) (l_123 hT hp (a := p) (b := k) (by omega) (by omega)) r_141_132 rfl rfl rfl rfl rfl (rcv_v rfl (ty_192 hT) (by decide) rfl (by decide)) rfl (by decide) rfl (fun x132_1 n132_1 q132_1 => ?_)
    obtain ⟨e_x132_1, z_x132_1⟩ := q132_1
    obtain rfl := z_x132_1.symm
    rw [e_x132_1, eD p k (by omega) (by omega)]
    show GX T 4 141 135 [(2, 192), (0, (h : Int)), (0, (h : Int) + 1), (0, (p : Int)), (0, (t : Int)), (0, (k : Int))] [(0, (D p k))] m Q
    refine gx_st (L' := [(2, 192), (0, (h : Int)), (0, (h : Int) + 1), (0, (p : Int)), (0, (t : Int)), (0, (k : Int))]) (S' := [(0, 1), (0, (D p k))]) r_141_135 rfl rfl rfl ?_
    refine gx_ic (P := ¬ (D p k) = 1) r_141_136 (rfl) (fun h136 => ?_) (fun h136 => ?_)
    · refine gx_li (z := (k : Int) + 1) (L' := [(2, 192), (0, (h : Int)), (0, (h : Int) + 1), (0, (p : Int)), (0, (t : Int)), (0, (k : Int) + 1)]) r_141_167 rfl (w32_eq (by omega) (by omega) (by omega)) rfl ?_
      refine gx_st (L' := [(2, 192), (0, (h : Int)), (0, (h : Int) + 1), (0, (p : Int)), (0, (t : Int)), (0, (k : Int) + 1)]) (S' := []) r_141_170 rfl rfl rfl ?_
      rw [show (k : Int) + 1 = ((k + 1 : Nat) : Int) from rfl]
      have hnk : ¬ (D p k = 1 ∧ D k g = D p g - 1) := fun z => by
        first
          | exact h136 z.1
          | exact h164 z.2
      refine ih (k + 1) (by omega) ?_ (fun j hj => ?_)
      · by_cases e : k = q0
        · rw [e] at hnk; exact absurd hq0 hnk
        · omega
      · by_cases e : j = k
        · rw [e]; exact hnk
        · exact hI j (by omega)
    · have h136 := Decidable.not_not.mp h136
      refine gx_st (L' := [(2, 192), (0, (h : Int)), (0, (h : Int) + 1), (0, (p : Int)), (0, (t : Int)), (0, (k : Int))]) (S' := [(2, 192)]) r_141_139 rfl rfl rfl ?_
      refine gx_st (L' := [(2, 192), (0, (h : Int)), (0, (h : Int) + 1), (0, (p : Int)), (0, (t : Int)), (0, (k : Int))]) (S' := [(0, (k : Int)), (2, 192)]) r_141_140 rfl rfl rfl ?_
      refine gx_st (L' := [(2, 192), (0, (h : Int)), (0, (h : Int) + 1), (0, (p : Int)), (0, (t : Int)), (0, (k : Int))]) (S' := [(2, 192), (0, (k : Int)), (2, 192)]) r_141_142 rfl rfl rfl ?_
      refine gx_st (L' := [(2, 192), (0, (h : Int)), (0, (h : Int) + 1), (0, (p : Int)), (0, (t : Int)), (0, (k : Int))]) (S' := [(0, (t : Int)), (2, 192), (0, (k : Int)), (2, 192)]) r_141_143 rfl rfl rfl ?_
      refine gx_ci (nx := 148) (S2 := [(0, (k : Int)), (2, 192)]) (l_97 hT hp (k := t) (by omega)) r_141_145 rfl rfl rfl rfl rfl (rcv_v rfl (ty_192 hT) (by decide) rfl (by decide)) rfl (by decide) rfl (fun x145_2 n145_2 q145_2 => ?_)
      obtain ⟨e_x145_2, z_x145_2⟩ := q145_2
      obtain rfl := z_x145_2.symm
      rw [e_x145_2, hE.2.2.2.1 t (by omega), hg]
      show GX T 4 141 148 [(2, 192), (0, (h : Int)), (0, (h : Int) + 1), (0, (p : Int)), (0, (t : Int)), (0, (k : Int))] [(0, (g : Int)), (0, (k : Int)), (2, 192)] m Q
      refine gx_ci (nx := 151) (S2 := []) (l_123 hT hp (a := k) (b := g) (by omega) (by omega)) r_141_148 rfl rfl rfl rfl rfl (rcv_v rfl (ty_192 hT) (by decide) rfl (by decide)) rfl (by decide) rfl (fun x148_3 n148_3 q148_3 => ?_)
      obtain ⟨e_x148_3, z_x148_3⟩ := q148_3
      obtain rfl := z_x148_3.symm
      rw [e_x148_3, eD k g (by omega) (by omega)]
      show GX T 4 141 151 [(2, 192), (0, (h : Int)), (0, (h : Int) + 1), (0, (p : Int)), (0, (t : Int)), (0, (k : Int))] [(0, (D k g))] m Q
      refine gx_st (L' := [(2, 192), (0, (h : Int)), (0, (h : Int) + 1), (0, (p : Int)), (0, (t : Int)), (0, (k : Int))]) (S' := [(2, 192), (0, (D k g))]) r_141_151 rfl rfl rfl ?_
      refine gx_st (L' := [(2, 192), (0, (h : Int)), (0, (h : Int) + 1), (0, (p : Int)), (0, (t : Int)), (0, (k : Int))]) (S' := [(0, (p : Int)), (2, 192), (0, (D k g))]) r_141_152 rfl rfl rfl ?_
      refine gx_st (L' := [(2, 192), (0, (h : Int)), (0, (h : Int) + 1), (0, (p : Int)), (0, (t : Int)), (0, (k : Int))]) (S' := [(2, 192), (0, (p : Int)), (2, 192), (0, (D k g))]) r_141_153 rfl rfl rfl ?_
      refine gx_st (L' := [(2, 192), (0, (h : Int)), (0, (h : Int) + 1), (0, (p : Int)), (0, (t : Int)), (0, (k : Int))]) (S' := [(0, (t : Int)), (2, 192), (0, (p : Int)), (2, 192), (0, (D k g))]) r_141_154 rfl rfl rfl ?_
      refine gx_ci (nx := 159) (S2 := [(0, (p : Int)), (2, 192), (0, (D k g))]) (l_97 hT hp (k := t) (by omega)) r_141_156 rfl rfl rfl rfl rfl (rcv_v rfl (ty_192 hT) (by decide) rfl (by decide)) rfl (by decide) rfl (fun x156_4 n156_4 q156_4 => ?_)
      obtain ⟨e_x156_4, z_x156_4⟩ := q156_4
      obtain rfl := z_x156_4.symm
      rw [e_x156_4, hE.2.2.2.1 t (by omega), hg]
      show GX T 4 141 159 [(2, 192), (0, (h : Int)), (0, (h : Int) + 1), (0, (p : Int)), (0, (t : Int)), (0, (k : Int))] [(0, (g : Int)), (0, (p : Int)), (2, 192), (0, (D k g))] m Q
      refine gx_ci (nx := 162) (S2 := [(0, (D k g))]) (l_123 hT hp (a := p) (b := g) (by omega) (by omega)) r_141_159 rfl rfl rfl rfl rfl (rcv_v rfl (ty_192 hT) (by decide) rfl (by decide)) rfl (by decide) rfl (fun x159_5 n159_5 q159_5 => ?_)
      obtain ⟨e_x159_5, z_x159_5⟩ := q159_5
      obtain rfl := z_x159_5.symm
      rw [e_x159_5, eD p g (by omega) (by omega)]
      show GX T 4 141 162 [(2, 192), (0, (h : Int)), (0, (h : Int) + 1), (0, (p : Int)), (0, (t : Int)), (0, (k : Int))] [(0, (D p g)), (0, (D k g))] m Q
      refine gx_st (L' := [(2, 192), (0, (h : Int)), (0, (h : Int) + 1), (0, (p : Int)), (0, (t : Int)), (0, (k : Int))]) (S' := [(0, 1), (0, (D p g)), (0, (D k g))]) r_141_162 rfl rfl rfl ?_
      refine gx_ar (L' := [(2, 192), (0, (h : Int)), (0, (h : Int) + 1), (0, (p : Int)), (0, (t : Int)), (0, (k : Int))]) (S' := [(0, (D k g))]) (t := 0) (e := w32 ((D p g) - 1)) (z := (D p g) - 1) r_141_163 rfl rfl rfl (w32_eq (by omega) (by omega) (by omega)) ?_
      refine gx_ic (P := (D k g) = (D p g) - 1) r_141_164 (rfl) (fun h164 => ?_) (fun h164 => ?_)
      · exact hout k (by omega) ⟨h136, h164⟩ hI
      · refine gx_li (z := (k : Int) + 1) (L' := [(2, 192), (0, (h : Int)), (0, (h : Int) + 1), (0, (p : Int)), (0, (t : Int)), (0, (k : Int) + 1)]) r_141_167 rfl (w32_eq (by omega) (by omega) (by omega)) rfl ?_
        refine gx_st (L' := [(2, 192), (0, (h : Int)), (0, (h : Int) + 1), (0, (p : Int)), (0, (t : Int)), (0, (k : Int) + 1)]) (S' := []) r_141_170 rfl rfl rfl ?_
        rw [show (k : Int) + 1 = ((k + 1 : Nat) : Int) from rfl]
        have hnk : ¬ (D p k = 1 ∧ D k g = D p g - 1) := fun z => by
          first
            | exact h136 z.1
            | exact h164 z.2
        refine ih (k + 1) (by omega) ?_ (fun j hj => ?_)
        · by_cases e : k = q0
          · rw [e] at hnk; exact absurd hq0 hnk
          · omega
        · by_cases e : j = k
          · rw [e]; exact hnk
          · exact hI j (by omega)
theorem y_141 (hT : TT T) (hp : PinR m) {w : Wd} (hB : WB w) {nt : Int} (hE : EW nt m w) (hP : WP w) {D : Nat → Nat → Int} (eD : ∀ a b : Nat, a < 7 → b < 7 → m 199 (7 * a + b) = D a b) (hD : WyD w D) {h : Nat} (hh : h < 12) {s : Wd} (hr0 : RowR nt m h s) (hr1 : RowR nt m (h + 1) s) {b p : Nat} (hb : s 1 = (b : Int)) (hb7 : (b : Int) < w 7) (hps : s 0 = (p : Int)) (hpn : (p : Int) < w 0) (k2 : 0 ≤ s 2 ∧ s 2 ≤ 60) (k6 : ∀ b : Nat, b < 5 → 0 ≤ s (6 + b) ∧ s (6 + b) ≤ 600) (k11 : ∀ t : Nat, t < 5 → (t : Int) < w 5 → 0 ≤ s (11 + t) ∧ s (11 + t) ≤ 9) (hnt : NtS nt w s) (k22 : m 192 22 = s 16) (k204 : ∀ c : Nat, c < 5 → 0 ≤ m 204 c ∧ m 204 c ≤ 20) (hdr : ¬ (h : Int) < s 3) : GX T 4 141 0 [(2, 192), (0, (h : Int)), (9, 0), (9, 0), (9, 0), (9, 0)] [] m (RV (fun m1 => HourP nt m m1 h s (goF w D (h : Int) s).1 (goF w D (h : Int) s).2)) := by
  have b7 := hB.2.2.2.2.1
  have b0 := hB.1
  refine gx_st (L' := [(2, 192), (0, (h : Int)), (9, 0), (9, 0), (9, 0), (9, 0)]) (S' := [(0, (h : Int))]) r_141_0 rfl rfl rfl ?_
  refine gx_st (L' := [(2, 192), (0, (h : Int)), (9, 0), (9, 0), (9, 0), (9, 0)]) (S' := [(0, 1), (0, (h : Int))]) r_141_1 rfl rfl rfl ?_
  refine gx_ar (L' := [(2, 192), (0, (h : Int)), (9, 0), (9, 0), (9, 0), (9, 0)]) (S' := []) (t := 0) (e := w32 ((h : Int) + 1)) (z := (h : Int) + 1) r_141_2 rfl rfl rfl (w32_eq (by omega) (by omega) (by omega)) ?_
  refine gx_st (L' := [(2, 192), (0, (h : Int)), (0, (h : Int) + 1), (9, 0), (9, 0), (9, 0)]) (S' := []) r_141_3 rfl rfl rfl ?_
  refine gx_st (L' := [(2, 192), (0, (h : Int)), (0, (h : Int) + 1), (9, 0), (9, 0), (9, 0)]) (S' := [(2, 192)]) r_141_4 rfl rfl rfl ?_
  refine gx_st (L' := [(2, 192), (0, (h : Int)), (0, (h : Int) + 1), (9, 0), (9, 0), (9, 0)]) (S' := [(0, (h : Int)), (2, 192)]) r_141_5 rfl rfl rfl ?_
  refine gx_st (L' := [(2, 192), (0, (h : Int)), (0, (h : Int) + 1), (9, 0), (9, 0), (9, 0)]) (S' := [(0, 0), (0, (h : Int)), (2, 192)]) r_141_6 rfl rfl rfl ?_
  have c7_1 : m 200 (16 * h) = (p : Int) := (by rw [show 16 * h = 16 * h + 0 by omega]; exact (hr0.1.1 0 (by decide) (by decide)).trans hps)
  refine gx_ci (nx := 10) (S2 := []) (l_131 hT hp (h := h) (k := 0) (i := 16 * h) (by omega) (by omega)) r_141_7 rfl rfl rfl rfl rfl (rcv_v rfl (ty_192 hT) (by decide) rfl (by decide)) rfl (by decide) rfl (fun x7_1 n7_1 q7_1 => ?_)
  obtain ⟨e_x7_1, z_x7_1⟩ := q7_1
  have y_x7_1 := z_x7_1.symm
  subst y_x7_1
  rw [e_x7_1, c7_1]
  show GX T 4 141 10 [(2, 192), (0, (h : Int)), (0, (h : Int) + 1), (9, 0), (9, 0), (9, 0)] [(0, (p : Int))] m (RV (fun m1 => HourP nt m m1 h s (goF w D (h : Int) s).1 (goF w D (h : Int) s).2))
  refine gx_st (L' := [(2, 192), (0, (h : Int)), (0, (h : Int) + 1), (0, (p : Int)), (9, 0), (9, 0)]) (S' := []) r_141_10 rfl rfl rfl ?_
  refine gx_st (L' := [(2, 192), (0, (h : Int)), (0, (h : Int) + 1), (0, (p : Int)), (9, 0), (9, 0)]) (S' := [(2, 192)]) r_141_11 rfl rfl rfl ?_
  refine gx_st (L' := [(2, 192), (0, (h : Int)), (0, (h : Int) + 1), (0, (p : Int)), (9, 0), (9, 0)]) (S' := [(0, (h : Int)), (2, 192)]) r_141_12 rfl rfl rfl ?_
  refine gx_st (L' := [(2, 192), (0, (h : Int)), (0, (h : Int) + 1), (0, (p : Int)), (9, 0), (9, 0)]) (S' := [(0, (p : Int)), (0, (h : Int)), (2, 192)]) r_141_13 rfl rfl rfl ?_
  refine gx_ci (nx := 17) (S2 := []) (y_135 hT hp hB hE eD hP (by omega) hr0 (fun t ht h5 => (k11 t ht h5).1) hnt (p := p) (by omega)) r_141_14 rfl rfl rfl rfl rfl (rcv_v rfl (ty_192 hT) (by decide) rfl (by decide)) rfl (by decide) rfl (fun x14_2 n14_2 q14_2 => ?_)
  obtain ⟨e_y, z_x14_2⟩ := q14_2
  have y_x14_2 := z_x14_2.symm
  subst y_x14_2
  obtain ⟨y, e_y2⟩ : ∃ z, z = x14_2 := ⟨_, rfl⟩
  rw [← e_y2] at e_y ⊢
  show GX T 4 141 17 [(2, 192), (0, (h : Int)), (0, (h : Int) + 1), (0, (p : Int)), (9, 0), (9, 0)] [(0, y)] m (RV (fun m1 => HourP nt m m1 h s (goF w D (h : Int) s).1 (goF w D (h : Int) s).2))
  refine gx_st (L' := [(2, 192), (0, (h : Int)), (0, (h : Int) + 1), (0, (p : Int)), (0, y), (9, 0)]) (S' := []) r_141_17 rfl rfl rfl ?_
  refine gx_st (L' := [(2, 192), (0, (h : Int)), (0, (h : Int) + 1), (0, (p : Int)), (0, y), (9, 0)]) (S' := [(0, y)]) r_141_19 rfl rfl rfl ?_
  refine gx_st (L' := [(2, 192), (0, (h : Int)), (0, (h : Int) + 1), (0, (p : Int)), (0, y), (9, 0)]) (S' := [(0, (-1)), (0, y)]) r_141_21 rfl rfl rfl ?_
  refine gx_ic (P := ¬ y = (-1)) r_141_22 (rfl) (fun h22 => ?_) (fun h22 => ?_)
  · rcases steer_ok w D p s with hno | ⟨t, t1, t2, t3, t4⟩
    · exact absurd (e_y.trans hno) h22
    have b5 := hB.2.2.1
    have t5 := hP.1 t (by omega) t2
    obtain ⟨g, hg⟩ : ∃ g : Nat, w (31 + 2 * t) = (g : Int) := ⟨(w (31 + 2 * t)).toNat, by omega⟩
    rw [nat_of hg] at t4
    have hgn : (g : Int) < w 0 := by omega
    have tnt : ¬ (t : Int) = nt := fun z => by
      have := hnt t z t2
      omega
    have ex := e_y.trans t1
    rw [ex]
    show GX T 4 141 35 [(2, 192), (0, (h : Int)), (0, (h : Int) + 1), (0, (p : Int)), (0, (t : Int)), (9, 0)] [] m (RV (fun m1 => HourP nt m m1 h s (goF w D (h : Int) s).1 (goF w D (h : Int) s).2))
    refine gx_st (L' := [(2, 192), (0, (h : Int)), (0, (h : Int) + 1), (0, (p : Int)), (0, (t : Int)), (9, 0)]) (S' := [(2, 192)]) r_141_35 rfl rfl rfl ?_
    refine gx_st (L' := [(2, 192), (0, (h : Int)), (0, (h : Int) + 1), (0, (p : Int)), (0, (t : Int)), (9, 0)]) (S' := [(0, (t : Int)), (2, 192)]) r_141_36 rfl rfl rfl ?_
    refine gx_ci (nx := 41) (S2 := []) (l_97 hT hp (k := t) (by omega)) r_141_38 rfl rfl rfl rfl rfl (rcv_v rfl (ty_192 hT) (by decide) rfl (by decide)) rfl (by decide) rfl (fun x38_3 n38_3 q38_3 => ?_)
    obtain ⟨e_x38_3, z_x38_3⟩ := q38_3
    obtain rfl := z_x38_3.symm
    rw [e_x38_3, hE.2.2.2.1 t (by omega), hg]
    show GX T 4 141 41 [(2, 192), (0, (h : Int)), (0, (h : Int) + 1), (0, (p : Int)), (0, (t : Int)), (9, 0)] [(0, (g : Int))] m (RV (fun m1 => HourP nt m m1 h s (goF w D (h : Int) s).1 (goF w D (h : Int) s).2))
    refine gx_st (L' := [(2, 192), (0, (h : Int)), (0, (h : Int) + 1), (0, (p : Int)), (0, (t : Int)), (9, 0)]) (S' := [(0, (p : Int)), (0, (g : Int))]) r_141_41 rfl rfl rfl ?_
    refine gx_ic (P := ¬ (g : Int) = (p : Int)) r_141_42 (rfl) (fun h42 => ?_) (fun h42 => ?_)
    · refine gx_st (L' := [(2, 192), (0, (h : Int)), (0, (h : Int) + 1), (0, (p : Int)), (0, (t : Int)), (9, 0)]) (S' := [(0, 0)]) r_141_125 rfl rfl rfl ?_
      refine gx_st (L' := [(2, 192), (0, (h : Int)), (0, (h : Int) + 1), (0, (p : Int)), (0, (t : Int)), (0, 0)]) (S' := []) r_141_126 rfl rfl rfl ?_
      have hne : ¬ p = g := fun z => h42 (by omega)
      obtain ⟨q0, q01, q02, q03⟩ : ∃ q0 : Nat, q0 < 7 ∧ D p q0 = 1 ∧ D q0 g = D p g - 1 := by
        obtain ⟨q, q1, q2, q3, q4⟩ := step_ok hB hD hpn hgn hne t4
        exact ⟨q, by omega, q3, q4⟩
      have hD2 : Wy (((w 0).toNat : Nat) : Int) (adjW w) D := by
        rw [show (((w 0).toNat : Nat) : Int) = w 0 by omega]; exact hD
      refine go_l hT hp hB hE eD (h := h) (p := p) (t := t) (g := g) (q0 := q0) (by omega) (by omega) hg (by omega) q01 ⟨wy_nn hD2 (by omega) (by omega), by have t4b : D p g < 1000000000 := t4; omega⟩ ⟨q02, q03⟩ (fun q q7 hq hj => ?_) (q0 + 1 + 1) 0 (by omega) (by omega) (fun j hj => absurd hj (Nat.not_lt_zero _))
      have hqn : (q : Int) < w 0 := by
        have z := ((adj_ok hB).2 p q ((wd_one hD (by omega) q7).mpr hq.1)).2.1
        omega
      have hq2 : stepF w D p g = (q : Int) := FirstOf_eq (n := (w 0).toNat) (R := (fun q : Nat => D p q = 1 ∧ D q g = D p g - 1)) (firstF_of _ _) (Or.inr ⟨q, by omega, hq, rfl, hj⟩) (fun i _ => by
        show (decide (D p i = 1) && decide (D i g = D p g - 1)) = true ↔ _
        rw [Bool.and_eq_true, decide_eq_true_eq, decide_eq_true_eq])
      refine gx_st (L' := [(2, 192), (0, (h : Int)), (0, (h : Int) + 1), (0, (p : Int)), (0, (t : Int)), (0, (q : Int))]) (S' := [(2, 192)]) r_141_173 rfl rfl rfl ?_
      refine gx_st (L' := [(2, 192), (0, (h : Int)), (0, (h : Int) + 1), (0, (p : Int)), (0, (t : Int)), (0, (q : Int))]) (S' := [(0, (h : Int)), (2, 192)]) r_141_174 rfl rfl rfl ?_
      refine gx_st (L' := [(2, 192), (0, (h : Int)), (0, (h : Int) + 1), (0, (p : Int)), (0, (t : Int)), (0, (q : Int))]) (S' := [(0, (q : Int)), (0, (h : Int)), (2, 192)]) r_141_175 rfl rfl rfl ?_
      refine gx_cv (nx := 180) (S2 := []) (y_139 hT hp hB hE hh hr1 hb hb7 k2 k6 k22 k204 (t := q)) r_141_177 rfl rfl rfl rfl rfl (rcv_v rfl (ty_192 hT) (by decide) rfl (by decide)) rfl (by decide) rfl (fun n177_4 q177_4 => ?_)
      have hpq := q177_4
      show GX T 4 141 180 [(2, 192), (0, (h : Int)), (0, (h : Int) + 1), (0, (p : Int)), (0, (t : Int)), (0, (q : Int))] [] n177_4 (RV (fun m1 => HourP nt m m1 h s (goF w D (h : Int) s).1 (goF w D (h : Int) s).2))
      exact gx_rt r_141_180 rfl rfl ⟨rfl, by rw [go_ca hps hdr t1 hg (fun z => h42 (by omega)), hq2]; exact hpq⟩
    · have h42 := Decidable.not_not.mp h42
      refine gx_st (L' := [(2, 192), (0, (h : Int)), (0, (h : Int) + 1), (0, (p : Int)), (0, (t : Int)), (9, 0)]) (S' := [(2, 192)]) r_141_45 rfl rfl rfl ?_
      refine gx_gf (x := 201) 2 r_141_46 (rfl) (ty_192 hT) ⟨by decide, rfl, by decide, by decide⟩ rfl (fun _ => by omega) (pin_at hp (t := 201) rfl (by decide)) ?_
      refine gx_st (L' := [(2, 192), (0, (h : Int)), (0, (h : Int) + 1), (0, (p : Int)), (0, (t : Int)), (9, 0)]) (S' := [(0, (h : Int)), (2, 201)]) r_141_49 rfl rfl rfl ?_
      refine gx_st (L' := [(2, 192), (0, (h : Int)), (0, (h : Int) + 1), (0, (p : Int)), (0, (t : Int)), (9, 0)]) (S' := [(0, 2), (0, (h : Int)), (2, 201)]) r_141_50 rfl rfl rfl ?_
      obtain ⟨m1, e_m1⟩ : ∃ z, z = nu_up m 201 h 2 := ⟨_, rfl⟩
      have rw_m1 : RowW nt m1 (h + 1) s := roww_e hr1.1 (fun i _ _ => by rw [e_m1, nu_no (by decide)])
      refine gx_is (n := h) (x := 2) r_141_51 (rfl) (by omega) (ty_201 hT) (by omega) ⟨rfl, by omega⟩ e_m1.symm ?_
      refine gx_st (L' := [(2, 192), (0, (h : Int)), (0, (h : Int) + 1), (0, (p : Int)), (0, (t : Int)), (9, 0)]) (S' := [(2, 192)]) r_141_52 rfl rfl rfl ?_
      refine gx_st (L' := [(2, 192), (0, (h : Int)), (0, (h : Int) + 1), (0, (p : Int)), (0, (t : Int)), (9, 0)]) (S' := [(0, (h : Int) + 1), (2, 192)]) r_141_53 rfl rfl rfl ?_
      refine gx_st (L' := [(2, 192), (0, (h : Int)), (0, (h : Int) + 1), (0, (p : Int)), (0, (t : Int)), (9, 0)]) (S' := [(0, 1), (0, (h : Int) + 1), (2, 192)]) r_141_54 rfl rfl rfl ?_
      have pp_m1 : PinR m1 := by rw [e_m1]; exact PinR_up hp rfl
      have c55_2 : m1 200 (16 * h + 17) = (b : Int) := by show m1 200 (16 * h + 17) = _; rw [e_m1, nu_no (by decide)]; exact (by rw [show 16 * h + 17 = 16 * (h + 1) + 1 by omega]; exact (hr1.1.1 1 (by decide) (by decide)).trans hb)
      refine gx_ci (nx := 58) (S2 := []) (l_131 hT pp_m1 (h := h + 1) (k := 1) (i := 16 * h + 17) (by omega) (by omega)) r_141_55 rfl rfl rfl rfl rfl (rcv_v rfl (ty_192 hT) (by decide) rfl (by decide)) rfl (by decide) rfl (fun x55_5 n55_5 q55_5 => ?_)
      obtain ⟨e_x55_5, z_x55_5⟩ := q55_5
      have y_x55_5 := z_x55_5.symm
      subst y_x55_5
      rw [e_x55_5, c55_2]
      show GX T 4 141 58 [(2, 192), (0, (h : Int)), (0, (h : Int) + 1), (0, (p : Int)), (0, (t : Int)), (9, 0)] [(0, (b : Int))] m1 (RV (fun m1 => HourP nt m m1 h s (goF w D (h : Int) s).1 (goF w D (h : Int) s).2))
      refine gx_st (L' := [(2, 192), (0, (h : Int)), (0, (h : Int) + 1), (0, (p : Int)), (0, (t : Int)), (0, (b : Int))]) (S' := []) r_141_58 rfl rfl rfl ?_
      refine gx_st (L' := [(2, 192), (0, (h : Int)), (0, (h : Int) + 1), (0, (p : Int)), (0, (t : Int)), (0, (b : Int))]) (S' := [(2, 192)]) r_141_60 rfl rfl rfl ?_
      refine gx_st (L' := [(2, 192), (0, (h : Int)), (0, (h : Int) + 1), (0, (p : Int)), (0, (t : Int)), (0, (b : Int))]) (S' := [(0, (h : Int) + 1), (2, 192)]) r_141_61 rfl rfl rfl ?_
      refine gx_st (L' := [(2, 192), (0, (h : Int)), (0, (h : Int) + 1), (0, (p : Int)), (0, (t : Int)), (0, (b : Int))]) (S' := [(0, 11), (0, (h : Int) + 1), (2, 192)]) r_141_62 rfl rfl rfl ?_
      refine gx_st (L' := [(2, 192), (0, (h : Int)), (0, (h : Int) + 1), (0, (p : Int)), (0, (t : Int)), (0, (b : Int))]) (S' := [(0, (t : Int)), (0, 11), (0, (h : Int) + 1), (2, 192)]) r_141_64 rfl rfl rfl ?_
      refine gx_ar (L' := [(2, 192), (0, (h : Int)), (0, (h : Int) + 1), (0, (p : Int)), (0, (t : Int)), (0, (b : Int))]) (S' := [(0, (h : Int) + 1), (2, 192)]) (t := 0) (e := w32 (11 + (t : Int))) (z := (t : Int) + 11) r_141_66 rfl rfl rfl (w32_eq (by omega) (by omega) (by omega)) ?_
      refine gx_st (L' := [(2, 192), (0, (h : Int)), (0, (h : Int) + 1), (0, (p : Int)), (0, (t : Int)), (0, (b : Int))]) (S' := [(2, 192), (0, (t : Int) + 11), (0, (h : Int) + 1), (2, 192)]) r_141_67 rfl rfl rfl ?_
      refine gx_st (L' := [(2, 192), (0, (h : Int)), (0, (h : Int) + 1), (0, (p : Int)), (0, (t : Int)), (0, (b : Int))]) (S' := [(0, (h : Int) + 1), (2, 192), (0, (t : Int) + 11), (0, (h : Int) + 1), (2, 192)]) r_141_68 rfl rfl rfl ?_
      refine gx_st (L' := [(2, 192), (0, (h : Int)), (0, (h : Int) + 1), (0, (p : Int)), (0, (t : Int)), (0, (b : Int))]) (S' := [(0, 11), (0, (h : Int) + 1), (2, 192), (0, (t : Int) + 11), (0, (h : Int) + 1), (2, 192)]) r_141_69 rfl rfl rfl ?_
      refine gx_st (L' := [(2, 192), (0, (h : Int)), (0, (h : Int) + 1), (0, (p : Int)), (0, (t : Int)), (0, (b : Int))]) (S' := [(0, (t : Int)), (0, 11), (0, (h : Int) + 1), (2, 192), (0, (t : Int) + 11), (0, (h : Int) + 1), (2, 192)]) r_141_71 rfl rfl rfl ?_
      refine gx_ar (L' := [(2, 192), (0, (h : Int)), (0, (h : Int) + 1), (0, (p : Int)), (0, (t : Int)), (0, (b : Int))]) (S' := [(0, (h : Int) + 1), (2, 192), (0, (t : Int) + 11), (0, (h : Int) + 1), (2, 192)]) (t := 0) (e := w32 (11 + (t : Int))) (z := (t : Int) + 11) r_141_73 rfl rfl rfl (w32_eq (by omega) (by omega) (by omega)) ?_
      have pp_m1 : PinR m1 := by rw [e_m1]; exact PinR_up hp rfl
      have c74_3 : m1 200 (16 * h + t + 27) = (s (11 + t)) := by show m1 200 (16 * h + t + 27) = _; rw [e_m1, nu_no (by decide)]; exact (by rw [show 16 * h + t + 27 = 16 * (h + 1) + (11 + t) by omega]; exact hr1.1.2.2 t (by omega) tnt)
      refine gx_ci (nx := 77) (S2 := [(0, (t : Int) + 11), (0, (h : Int) + 1), (2, 192)]) (l_131 hT pp_m1 (h := h + 1) (k := t + 11) (i := 16 * h + t + 27) (by omega) (by omega)) r_141_74 rfl rfl rfl rfl rfl (rcv_v rfl (ty_192 hT) (by decide) rfl (by decide)) rfl (by decide) rfl (fun x74_6 n74_6 q74_6 => ?_)
      obtain ⟨e_x74_6, z_x74_6⟩ := q74_6
      have y_x74_6 := z_x74_6.symm
      subst y_x74_6
      rw [e_x74_6, c74_3]
      show GX T 4 141 77 [(2, 192), (0, (h : Int)), (0, (h : Int) + 1), (0, (p : Int)), (0, (t : Int)), (0, (b : Int))] [(0, (s (11 + t))), (0, (t : Int) + 11), (0, (h : Int) + 1), (2, 192)] m1 (RV (fun m1 => HourP nt m m1 h s (goF w D (h : Int) s).1 (goF w D (h : Int) s).2))
      refine gx_st (L' := [(2, 192), (0, (h : Int)), (0, (h : Int) + 1), (0, (p : Int)), (0, (t : Int)), (0, (b : Int))]) (S' := [(0, 1), (0, (s (11 + t))), (0, (t : Int) + 11), (0, (h : Int) + 1), (2, 192)]) r_141_77 rfl rfl rfl ?_
      have k11t := k11 t (by omega) t2
      refine gx_ar (L' := [(2, 192), (0, (h : Int)), (0, (h : Int) + 1), (0, (p : Int)), (0, (t : Int)), (0, (b : Int))]) (S' := [(0, (t : Int) + 11), (0, (h : Int) + 1), (2, 192)]) (t := 0) (e := w32 (((s (11 + t))) - 1)) (z := (s (11 + t)) - 1) r_141_78 rfl rfl rfl (w32_eq (by omega) (by omega) (by omega)) ?_
      have pp_m1 : PinR m1 := by rw [e_m1]; exact PinR_up hp rfl
      refine gx_cv (nx := 82) (S2 := []) (l_132 hT pp_m1 (h := h + 1) (k := t + 11) (i := 16 * h + t + 27) (by omega) (by omega) ((s (11 + t)) - 1)) r_141_79 rfl rfl rfl rfl rfl (rcv_v rfl (ty_192 hT) (by decide) rfl (by decide)) rfl (by decide) rfl (fun n79_7 q79_7 => ?_)
      have e_n79_7 : n79_7 = nu_up m1 200 (16 * h + t + 27) ((s (11 + t)) - 1) := q79_7
      have rw_n79_7 : RowW nt n79_7 (h + 1) (upw s (11 + t) ((s (11 + t)) - 1)) := by rw [e_n79_7]; exact roww_u rw_m1 (t2 := t) (by omega) (by omega)
      show GX T 4 141 82 [(2, 192), (0, (h : Int)), (0, (h : Int) + 1), (0, (p : Int)), (0, (t : Int)), (0, (b : Int))] [] n79_7 (RV (fun m1 => HourP nt m m1 h s (goF w D (h : Int) s).1 (goF w D (h : Int) s).2))
      refine gx_st (L' := [(2, 192), (0, (h : Int)), (0, (h : Int) + 1), (0, (p : Int)), (0, (t : Int)), (0, (b : Int))]) (S' := [(2, 192)]) r_141_82 rfl rfl rfl ?_
      refine gx_st (L' := [(2, 192), (0, (h : Int)), (0, (h : Int) + 1), (0, (p : Int)), (0, (t : Int)), (0, (b : Int))]) (S' := [(0, (h : Int) + 1), (2, 192)]) r_141_83 rfl rfl rfl ?_
      refine gx_st (L' := [(2, 192), (0, (h : Int)), (0, (h : Int) + 1), (0, (p : Int)), (0, (t : Int)), (0, (b : Int))]) (S' := [(0, 2), (0, (h : Int) + 1), (2, 192)]) r_141_84 rfl rfl rfl ?_
      refine gx_st (L' := [(2, 192), (0, (h : Int)), (0, (h : Int) + 1), (0, (p : Int)), (0, (t : Int)), (0, (b : Int))]) (S' := [(2, 192), (0, 2), (0, (h : Int) + 1), (2, 192)]) r_141_85 rfl rfl rfl ?_
      refine gx_st (L' := [(2, 192), (0, (h : Int)), (0, (h : Int) + 1), (0, (p : Int)), (0, (t : Int)), (0, (b : Int))]) (S' := [(0, (h : Int) + 1), (2, 192), (0, 2), (0, (h : Int) + 1), (2, 192)]) r_141_86 rfl rfl rfl ?_
      refine gx_st (L' := [(2, 192), (0, (h : Int)), (0, (h : Int) + 1), (0, (p : Int)), (0, (t : Int)), (0, (b : Int))]) (S' := [(0, 2), (0, (h : Int) + 1), (2, 192), (0, 2), (0, (h : Int) + 1), (2, 192)]) r_141_87 rfl rfl rfl ?_
      have pp_n79_7 : PinR n79_7 := by rw [e_n79_7, e_m1]; exact PinR_up (PinR_up hp rfl) rfl
      have c88_4 : n79_7 200 (16 * h + 18) = (s 2) := by show n79_7 200 (16 * h + 18) = _; rw [e_n79_7, nu_ne (by omega), e_m1, nu_no (by decide)]; exact (by rw [show 16 * h + 18 = 16 * (h + 1) + 2 by omega]; exact hr1.1.1 2 (by decide) (by decide))
      refine gx_ci (nx := 91) (S2 := [(0, 2), (0, (h : Int) + 1), (2, 192)]) (l_131 hT pp_n79_7 (h := h + 1) (k := 2) (i := 16 * h + 18) (by omega) (by omega)) r_141_88 rfl rfl rfl rfl rfl (rcv_v rfl (ty_192 hT) (by decide) rfl (by decide)) rfl (by decide) rfl (fun x88_8 n88_8 q88_8 => ?_)
      obtain ⟨e_x88_8, z_x88_8⟩ := q88_8
      have y_x88_8 := z_x88_8.symm
      subst y_x88_8
      rw [e_x88_8, c88_4]
      show GX T 4 141 91 [(2, 192), (0, (h : Int)), (0, (h : Int) + 1), (0, (p : Int)), (0, (t : Int)), (0, (b : Int))] [(0, (s 2)), (0, 2), (0, (h : Int) + 1), (2, 192)] n79_7 (RV (fun m1 => HourP nt m m1 h s (goF w D (h : Int) s).1 (goF w D (h : Int) s).2))
      refine gx_st (L' := [(2, 192), (0, (h : Int)), (0, (h : Int) + 1), (0, (p : Int)), (0, (t : Int)), (0, (b : Int))]) (S' := [(0, 1), (0, (s 2)), (0, 2), (0, (h : Int) + 1), (2, 192)]) r_141_91 rfl rfl rfl ?_
      refine gx_ar (L' := [(2, 192), (0, (h : Int)), (0, (h : Int) + 1), (0, (p : Int)), (0, (t : Int)), (0, (b : Int))]) (S' := [(0, 2), (0, (h : Int) + 1), (2, 192)]) (t := 0) (e := w32 ((s 2) + 1)) (z := (s 2) + 1) r_141_92 rfl rfl rfl (w32_eq (by omega) (by omega) (by omega)) ?_
      have pp_n79_7 : PinR n79_7 := by rw [e_n79_7, e_m1]; exact PinR_up (PinR_up hp rfl) rfl
      refine gx_cv (nx := 96) (S2 := []) (l_132 hT pp_n79_7 (h := h + 1) (k := 2) (i := 16 * h + 18) (by omega) (by omega) ((s 2) + 1)) r_141_93 rfl rfl rfl rfl rfl (rcv_v rfl (ty_192 hT) (by decide) rfl (by decide)) rfl (by decide) rfl (fun n93_9 q93_9 => ?_)
      have e_n93_9 : n93_9 = nu_up n79_7 200 (16 * h + 18) ((s 2) + 1) := q93_9
      have rw_n93_9 : RowW nt n93_9 (h + 1) (upw (upw s (11 + t) ((s (11 + t)) - 1)) 2 ((s 2) + 1)) := by rw [e_n93_9]; exact roww_f rw_n79_7 (k := 2) (by decide) (by omega)
      show GX T 4 141 96 [(2, 192), (0, (h : Int)), (0, (h : Int) + 1), (0, (p : Int)), (0, (t : Int)), (0, (b : Int))] [] n93_9 (RV (fun m1 => HourP nt m m1 h s (goF w D (h : Int) s).1 (goF w D (h : Int) s).2))
      refine gx_st (L' := [(2, 192), (0, (h : Int)), (0, (h : Int) + 1), (0, (p : Int)), (0, (t : Int)), (0, (b : Int))]) (S' := [(2, 192)]) r_141_96 rfl rfl rfl ?_
      refine gx_st (L' := [(2, 192), (0, (h : Int)), (0, (h : Int) + 1), (0, (p : Int)), (0, (t : Int)), (0, (b : Int))]) (S' := [(0, (h : Int) + 1), (2, 192)]) r_141_97 rfl rfl rfl ?_
      refine gx_st (L' := [(2, 192), (0, (h : Int)), (0, (h : Int) + 1), (0, (p : Int)), (0, (t : Int)), (0, (b : Int))]) (S' := [(0, 6), (0, (h : Int) + 1), (2, 192)]) r_141_98 rfl rfl rfl ?_
      refine gx_st (L' := [(2, 192), (0, (h : Int)), (0, (h : Int) + 1), (0, (p : Int)), (0, (t : Int)), (0, (b : Int))]) (S' := [(0, (b : Int)), (0, 6), (0, (h : Int) + 1), (2, 192)]) r_141_100 rfl rfl rfl ?_
      refine gx_ar (L' := [(2, 192), (0, (h : Int)), (0, (h : Int) + 1), (0, (p : Int)), (0, (t : Int)), (0, (b : Int))]) (S' := [(0, (h : Int) + 1), (2, 192)]) (t := 0) (e := w32 (6 + (b : Int))) (z := (b : Int) + 6) r_141_102 rfl rfl rfl (w32_eq (by omega) (by omega) (by omega)) ?_
      refine gx_st (L' := [(2, 192), (0, (h : Int)), (0, (h : Int) + 1), (0, (p : Int)), (0, (t : Int)), (0, (b : Int))]) (S' := [(0, 0), (0, (b : Int) + 6), (0, (h : Int) + 1), (2, 192)]) r_141_103 rfl rfl rfl ?_
      refine gx_st (L' := [(2, 192), (0, (h : Int)), (0, (h : Int) + 1), (0, (p : Int)), (0, (t : Int)), (0, (b : Int))]) (S' := [(2, 192), (0, 0), (0, (b : Int) + 6), (0, (h : Int) + 1), (2, 192)]) r_141_104 rfl rfl rfl ?_
      refine gx_st (L' := [(2, 192), (0, (h : Int)), (0, (h : Int) + 1), (0, (p : Int)), (0, (t : Int)), (0, (b : Int))]) (S' := [(0, (h : Int) + 1), (2, 192), (0, 0), (0, (b : Int) + 6), (0, (h : Int) + 1), (2, 192)]) r_141_105 rfl rfl rfl ?_
      refine gx_st (L' := [(2, 192), (0, (h : Int)), (0, (h : Int) + 1), (0, (p : Int)), (0, (t : Int)), (0, (b : Int))]) (S' := [(0, 6), (0, (h : Int) + 1), (2, 192), (0, 0), (0, (b : Int) + 6), (0, (h : Int) + 1), (2, 192)]) r_141_106 rfl rfl rfl ?_
      refine gx_st (L' := [(2, 192), (0, (h : Int)), (0, (h : Int) + 1), (0, (p : Int)), (0, (t : Int)), (0, (b : Int))]) (S' := [(0, (b : Int)), (0, 6), (0, (h : Int) + 1), (2, 192), (0, 0), (0, (b : Int) + 6), (0, (h : Int) + 1), (2, 192)]) r_141_108 rfl rfl rfl ?_
      refine gx_ar (L' := [(2, 192), (0, (h : Int)), (0, (h : Int) + 1), (0, (p : Int)), (0, (t : Int)), (0, (b : Int))]) (S' := [(0, (h : Int) + 1), (2, 192), (0, 0), (0, (b : Int) + 6), (0, (h : Int) + 1), (2, 192)]) (t := 0) (e := w32 (6 + (b : Int))) (z := (b : Int) + 6) r_141_110 rfl rfl rfl (w32_eq (by omega) (by omega) (by omega)) ?_
      have pp_n93_9 : PinR n93_9 := by rw [e_n93_9, e_n79_7, e_m1]; exact PinR_up (PinR_up (PinR_up hp rfl) rfl) rfl
      have c111_5 : n93_9 200 (16 * h + b + 22) = (s (6 + b)) := by show n93_9 200 (16 * h + b + 22) = _; rw [e_n93_9, nu_ne (by omega), e_n79_7, nu_ne (by omega), e_m1, nu_no (by decide)]; exact (by rw [show 16 * h + b + 22 = 16 * (h + 1) + (6 + b) by omega]; exact hr1.1.2.1 b (by omega))
      refine gx_ci (nx := 114) (S2 := [(0, 0), (0, (b : Int) + 6), (0, (h : Int) + 1), (2, 192)]) (l_131 hT pp_n93_9 (h := h + 1) (k := b + 6) (i := 16 * h + b + 22) (by omega) (by omega)) r_141_111 rfl rfl rfl rfl rfl (rcv_v rfl (ty_192 hT) (by decide) rfl (by decide)) rfl (by decide) rfl (fun x111_10 n111_10 q111_10 => ?_)
      obtain ⟨e_x111_10, z_x111_10⟩ := q111_10
      have y_x111_10 := z_x111_10.symm
      subst y_x111_10
      rw [e_x111_10, c111_5]
      show GX T 4 141 114 [(2, 192), (0, (h : Int)), (0, (h : Int) + 1), (0, (p : Int)), (0, (t : Int)), (0, (b : Int))] [(0, (s (6 + b))), (0, 0), (0, (b : Int) + 6), (0, (h : Int) + 1), (2, 192)] n93_9 (RV (fun m1 => HourP nt m m1 h s (goF w D (h : Int) s).1 (goF w D (h : Int) s).2))
      refine gx_st (L' := [(2, 192), (0, (h : Int)), (0, (h : Int) + 1), (0, (p : Int)), (0, (t : Int)), (0, (b : Int))]) (S' := [(0, 3), (0, (s (6 + b))), (0, 0), (0, (b : Int) + 6), (0, (h : Int) + 1), (2, 192)]) r_141_114 rfl rfl rfl ?_
      have k6b := k6 b (by omega)
      refine gx_ar (L' := [(2, 192), (0, (h : Int)), (0, (h : Int) + 1), (0, (p : Int)), (0, (t : Int)), (0, (b : Int))]) (S' := [(0, 0), (0, (b : Int) + 6), (0, (h : Int) + 1), (2, 192)]) (t := 0) (e := w32 (((s (6 + b))) - 3)) (z := (s (6 + b)) - 3) r_141_115 rfl rfl rfl (w32_eq (by omega) (by omega) (by omega)) ?_
      refine gx_st (L' := [(2, 192), (0, (h : Int)), (0, (h : Int) + 1), (0, (p : Int)), (0, (t : Int)), (0, (b : Int))]) (S' := [(0, (max 0 ((s (6 + b)) - 3))), (0, (b : Int) + 6), (0, (h : Int) + 1), (2, 192)]) r_141_116 rfl rfl rfl ?_
      have pp_n93_9 : PinR n93_9 := by rw [e_n93_9, e_n79_7, e_m1]; exact PinR_up (PinR_up (PinR_up hp rfl) rfl) rfl
      refine gx_cv (nx := 122) (S2 := []) (l_132 hT pp_n93_9 (h := h + 1) (k := b + 6) (i := 16 * h + b + 22) (by omega) (by omega) ((max 0 ((s (6 + b)) - 3)))) r_141_119 rfl rfl rfl rfl rfl (rcv_v rfl (ty_192 hT) (by decide) rfl (by decide)) rfl (by decide) rfl (fun n119_11 q119_11 => ?_)
      have e_n119_11 : n119_11 = nu_up n93_9 200 (16 * h + b + 22) ((max 0 ((s (6 + b)) - 3))) := q119_11
      have rw_n119_11 : RowW nt n119_11 (h + 1) (upw (upw (upw s (11 + t) ((s (11 + t)) - 1)) 2 ((s 2) + 1)) (6 + b) ((max 0 ((s (6 + b)) - 3)))) := by rw [e_n119_11]; exact roww_t rw_n93_9 (b2 := b) (by omega) (by omega)
      show GX T 4 141 122 [(2, 192), (0, (h : Int)), (0, (h : Int) + 1), (0, (p : Int)), (0, (t : Int)), (0, (b : Int))] [] n119_11 (RV (fun m1 => HourP nt m m1 h s (goF w D (h : Int) s).1 (goF w D (h : Int) s).2))
      refine gx_st (L' := [(2, 192), (0, (h : Int)), (0, (h : Int) + 1), (0, (p : Int)), (0, (t : Int)), (0, (b : Int))]) (S' := []) r_141_122 rfl rfl rfl ?_
      have hmx : max 0 (s (6 + b) - 3) = max (s (6 + b) - 3) 0 := Int.max_comm _ _
      exact gx_rt r_141_180 rfl rfl ⟨rfl, by
        rw [go_ea hps hdr t1 hg (by omega), eat_b hb, ← hmx]
        exact hourp_st (s2 := (upw (upw (upw s (11 + t) ((s (11 + t)) - 1)) 2 ((s 2) + 1)) (6 + b) ((max 0 ((s (6 + b)) - 3))))) (v := 2) (by decide) (by rw [upw_ne (by omega), upw_ne (by decide), upw_ne (by omega)]) (by rw [upw_ne (by omega), upw_ne (by decide), upw_ne (by omega)]) k22 rw_n119_11 (fun _ => ((show n119_11 200 (16 * h + 19) = m 200 (16 * h + 19) from by rw [e_n119_11, nu_ne (by omega), e_n93_9, nu_ne (by omega), e_n79_7, nu_ne (by omega), e_m1, nu_no (by decide)])).trans (by rw [show 16 * h + 19 = 16 * (h + 1) + 3 by omega]; exact (hr1.2 (by omega)).trans (by rw [upw_ne (by omega), upw_ne (by decide), upw_ne (by omega)]))) (by show n119_11 201 h = _; rw [e_n119_11, nu_no (by decide), e_n93_9, nu_no (by decide), e_n79_7, nu_no (by decide), e_m1, nu_at]) (by show n119_11 192 21 = _; rw [e_n119_11, nu_no (by decide), e_n93_9, nu_no (by decide), e_n79_7, nu_no (by decide), e_m1, nu_no (by decide)]) (by show n119_11 192 22 = _; rw [e_n119_11, nu_no (by decide), e_n93_9, nu_no (by decide), e_n79_7, nu_no (by decide), e_m1, nu_no (by decide)]) (fun c => by rw [e_n119_11, nu_x (by omega), e_n93_9, nu_x (by omega), e_n79_7, nu_x (by omega), e_m1, nu_x (by omega)]) (fun p i x1 x2 x3 x4 x5 => by rw [e_n119_11, nu_x (by omega), e_n93_9, nu_x (by omega), e_n79_7, nu_x (by omega), e_m1, nu_x (by omega)])⟩
  · have h22 := Decidable.not_not.mp h22
    refine gx_st (L' := [(2, 192), (0, (h : Int)), (0, (h : Int) + 1), (0, (p : Int)), (0, y), (9, 0)]) (S' := [(2, 192)]) r_141_25 rfl rfl rfl ?_
    refine gx_gf (x := 201) 2 r_141_26 (rfl) (ty_192 hT) ⟨by decide, rfl, by decide, by decide⟩ rfl (fun _ => by omega) (pin_at hp (t := 201) rfl (by decide)) ?_
    refine gx_st (L' := [(2, 192), (0, (h : Int)), (0, (h : Int) + 1), (0, (p : Int)), (0, y), (9, 0)]) (S' := [(0, (h : Int)), (2, 201)]) r_141_29 rfl rfl rfl ?_
    refine gx_st (L' := [(2, 192), (0, (h : Int)), (0, (h : Int) + 1), (0, (p : Int)), (0, y), (9, 0)]) (S' := [(0, 4), (0, (h : Int)), (2, 201)]) r_141_30 rfl rfl rfl ?_
    obtain ⟨m1, e_m1⟩ : ∃ z, z = nu_up m 201 h 4 := ⟨_, rfl⟩
    have rw_m1 : RowW nt m1 (h + 1) s := roww_e hr1.1 (fun i _ _ => by rw [e_m1, nu_no (by decide)])
    refine gx_is (n := h) (x := 4) r_141_31 (rfl) (by omega) (ty_201 hT) (by omega) ⟨rfl, by omega⟩ e_m1.symm ?_
    refine gx_st (L' := [(2, 192), (0, (h : Int)), (0, (h : Int) + 1), (0, (p : Int)), (0, y), (9, 0)]) (S' := []) r_141_32 rfl rfl rfl ?_
    exact gx_rt r_141_180 rfl rfl ⟨rfl, by rw [go_sta hps hdr (e_y.symm.trans h22)]; exact hourp_st (s2 := s) (v := 4) (by decide) rfl rfl k22 rw_m1 (fun _ => ((show m1 200 (16 * h + 19) = m 200 (16 * h + 19) from by rw [e_m1, nu_no (by decide)])).trans (by rw [show 16 * h + 19 = 16 * (h + 1) + 3 by omega]; exact (hr1.2 (by omega)).trans rfl)) (by show m1 201 h = _; rw [e_m1, nu_at]) (by show m1 192 21 = _; rw [e_m1, nu_no (by decide)]) (by show m1 192 22 = _; rw [e_m1, nu_no (by decide)]) (fun c => by rw [e_m1, nu_x (by omega)]) (fun p i x1 x2 x3 x4 x5 => by rw [e_m1, nu_x (by omega)])⟩
theorem cp_l (hT : TT T) (hp : PinR m) {h : Nat} (hh : h < 12) {a x4 : Int} {Q : AV → Mm → Prop} (hout : ∀ m1 : Mm, PinR m1 → (∀ j : Nat, j < 16 → m1 200 (16 * (h + 1) + j) = m 200 (16 * h + j)) → (∀ p i : Nat, ¬ (p = 200 ∧ 16 * h + 16 ≤ i ∧ i < 16 * h + 32) → m1 p i = m p i) → GX T 5 142 42 [(2, 192), (0, (h : Int)), (0, a), (0, (h : Int) + 1), (0, x4), (0, 16)] [] m1 Q) : ∀ (N k : Nat) (m1 : Mm), 16 - k < N → k ≤ 16 → PinR m1 → (∀ j : Nat, j < k → m1 200 (16 * (h + 1) + j) = m 200 (16 * h + j)) → (∀ p i : Nat, ¬ (p = 200 ∧ 16 * h + 16 ≤ i ∧ i < 16 * h + 32) → m1 p i = m p i) → GX T 5 142 15 [(2, 192), (0, (h : Int)), (0, a), (0, (h : Int) + 1), (0, x4), (0, (k : Int))] [] m1 Q := by
  intro N
  induction N with
  | zero => intro k m1 hN; exact absurd hN (Nat.not_lt_zero _)
  | succ N ih =>
    intro k m1 hN hk hp1 hc hf
    refine gx_st (L' := [(2, 192), (0, (h : Int)), (0, a), (0, (h : Int) + 1), (0, x4), (0, (k : Int))]) (S' := [(0, (k : Int))]) r_142_15 rfl rfl rfl ?_
    refine gx_st (L' := [(2, 192), (0, (h : Int)), (0, a), (0, (h : Int) + 1), (0, x4), (0, (k : Int))]) (S' := [(0, 16), (0, (k : Int))]) r_142_17 rfl rfl rfl ?_
    refine gx_ic (P := 16 ≤ (k : Int)) r_142_19 (rfl) (fun h19 => ?_) (fun h19 => ?_)
    · have hk16 : k = 16 := by omega
      subst hk16
      exact hout m1 hp1 hc hf
    · refine gx_st (L' := [(2, 192), (0, (h : Int)), (0, a), (0, (h : Int) + 1), (0, x4), (0, (k : Int))]) (S' := [(2, 192)]) r_142_22 rfl rfl rfl ?_
      refine gx_st (L' := [(2, 192), (0, (h : Int)), (0, a), (0, (h : Int) + 1), (0, x4), (0, (k : Int))]) (S' := [(0, (h : Int) + 1), (2, 192)]) r_142_23 rfl rfl rfl ?_
      refine gx_st (L' := [(2, 192), (0, (h : Int)), (0, a), (0, (h : Int) + 1), (0, x4), (0, (k : Int))]) (S' := [(0, (k : Int)), (0, (h : Int) + 1), (2, 192)]) r_142_24 rfl rfl rfl ?_
      refine gx_st (L' := [(2, 192), (0, (h : Int)), (0, a), (0, (h : Int) + 1), (0, x4), (0, (k : Int))]) (S' := [(2, 192), (0, (k : Int)), (0, (h : Int) + 1), (2, 192)]) r_142_26 rfl rfl rfl ?_
      refine gx_st (L' := [(2, 192), (0, (h : Int)), (0, a), (0, (h : Int) + 1), (0, x4), (0, (k : Int))]) (S' := [(0, (h : Int)), (2, 192), (0, (k : Int)), (0, (h : Int) + 1), (2, 192)]) r_142_27 rfl rfl rfl ?_
      refine gx_st (L' := [(2, 192), (0, (h : Int)), (0, a), (0, (h : Int) + 1), (0, x4), (0, (k : Int))]) (S' := [(0, (k : Int)), (0, (h : Int)), (2, 192), (0, (k : Int)), (0, (h : Int) + 1), (2, 192)]) r_142_28 rfl rfl rfl ?_
      refine gx_ci (nx := 33) (S2 := [(0, (k : Int)), (0, (h : Int) + 1), (2, 192)]) (l_131 hT hp1 (h := h) (k := k) (i := 16 * h + k) (by omega) (by omega)) r_142_30 rfl rfl rfl rfl rfl (rcv_v rfl (ty_192 hT) (by decide) rfl (by decide)) rfl (by decide) rfl (fun x30 n30 q30 => ?_)
      obtain ⟨e_x30, z_x30⟩ := q30
      obtain rfl := z_x30.symm
      rw [e_x30, hf 200 (16 * h + k) (by omega)]
      show GX T 5 142 33 [(2, 192), (0, (h : Int)), (0, a), (0, (h : Int) + 1), (0, x4), (0, (k : Int))] [(0, (m 200 (16 * h + k))), (0, (k : Int)), (0, (h : Int) + 1), (2, 192)] m1 Q
      refine gx_cv (nx := 36) (S2 := []) (l_132 hT hp1 (h := h + 1) (k := k) (i := 16 * (h + 1) + k) (by omega) (by omega) (m 200 (16 * h + k))) r_142_33 rfl rfl rfl rfl rfl (rcv_v rfl (ty_192 hT) (by decide) rfl (by decide)) rfl (by decide) rfl (fun n33 q33 => ?_)
      have e_n33 := q33
      show GX T 5 142 36 [(2, 192), (0, (h : Int)), (0, a), (0, (h : Int) + 1), (0, x4), (0, (k : Int))] [] n33 Q
      refine gx_li (z := (k : Int) + 1) (L' := [(2, 192), (0, (h : Int)), (0, a), (0, (h : Int) + 1), (0, x4), (0, (k : Int) + 1)]) r_142_36 rfl (w32_eq (by omega) (by omega) (by omega)) rfl ?_
      refine gx_st (L' := [(2, 192), (0, (h : Int)), (0, a), (0, (h : Int) + 1), (0, x4), (0, (k : Int) + 1)]) (S' := []) r_142_39 rfl rfl rfl ?_
      rw [show (k : Int) + 1 = ((k + 1 : Nat) : Int) from rfl]
      refine ih (k + 1) n33 (by omega) (by omega) (by rw [e_n33]; exact PinR_up hp1 rfl) (fun j hj => ?_) (fun p i x => ?_)
      · rw [e_n33]
        by_cases e : j = k
        · rw [e, nu_at]
        · rw [nu_ne (by omega)]; exact hc j (by omega)
      · rw [e_n33, nu_x (by omega)]; exact hf p i x
theorem r_142 (hT : TT T) (hp : PinR m) {w : Wd} (hB : WB w) {nt : Int} (hE : EW nt m w) (hP : WP w) {D : Nat → Nat → Int} (eD : ∀ a b : Nat, a < 7 → b < 7 → m 199 (7 * a + b) = D a b) (hD : WyD w D) {h : Nat} (hh : h < 12) {s : Wd} (hr0 : RowR nt m h s) (rw1 : RowW nt m (h + 1) s) (k22 : m 192 22 = s 16) {b p : Nat} (hb : s 1 = (b : Int)) (hb7 : (b : Int) < w 7) (hps : s 0 = (p : Int)) (hpn : (p : Int) < w 0) (k2 : 0 ≤ s 2 ∧ s 2 ≤ 60) (k3 : s 3 ≤ 100) (k6 : ∀ b : Nat, b < 5 → 0 ≤ s (6 + b) ∧ s (6 + b) ≤ 600) (k11 : ∀ t : Nat, t < 5 → (t : Int) < w 5 → 0 ≤ s (11 + t) ∧ s (11 + t) ≤ 9) (hnt : NtS nt w s) (k204 : ∀ c : Nat, c < 5 → 0 ≤ m 204 c ∧ m 204 c ≤ 20) {a : Int} (ha : 0 ≤ a ∧ a ≤ 16) : GX T 5 142 42 [(2, 192), (0, (h : Int)), (0, a), (0, (h : Int) + 1), (0, (if canF w D (h : Int) a s = true then 1 else 0)), (0, 16)] [] m (RV (fun m1 => HourP nt m m1 h s (hourF w D (h : Int) a s).1 (hourF w D (h : Int) a s).2)) := by
  have b7 := hB.2.2.2.2.1
  have hb1 : ¬ s 1 = -1 := by omega
  refine gx_st (L' := [(2, 192), (0, (h : Int)), (0, a), (0, (h : Int) + 1), (0, (if canF w D (h : Int) a s = true then 1 else 0)), (0, 16)]) (S' := [(2, 192)]) r_142_42 rfl rfl rfl ?_
  refine gx_gf (x := 201) 2 r_142_43 (rfl) (ty_192 hT) ⟨by decide, rfl, by decide, by decide⟩ rfl (fun _ => by omega) (pin_at hp (t := 201) rfl (by decide)) ?_
  refine gx_st (L' := [(2, 192), (0, (h : Int)), (0, a), (0, (h : Int) + 1), (0, (if canF w D (h : Int) a s = true then 1 else 0)), (0, 16)]) (S' := [(0, (h : Int)), (2, 201)]) r_142_46 rfl rfl rfl ?_
  refine gx_st (L' := [(2, 192), (0, (h : Int)), (0, a), (0, (h : Int) + 1), (0, (if canF w D (h : Int) a s = true then 1 else 0)), (0, 16)]) (S' := [(0, 0), (0, (h : Int)), (2, 201)]) r_142_47 rfl rfl rfl ?_
  obtain ⟨m1, e_m1⟩ : ∃ z, z = nu_up m 201 h 0 := ⟨_, rfl⟩
  have rw_m1 : RowW nt m1 (h + 1) s := roww_e rw1 (fun i _ _ => by rw [e_m1, nu_no (by decide)])
  refine gx_is (n := h) (x := 0) r_142_48 (rfl) (by omega) (ty_201 hT) (by omega) ⟨rfl, by omega⟩ e_m1.symm ?_
  refine gx_st (L' := [(2, 192), (0, (h : Int)), (0, a), (0, (h : Int) + 1), (0, (if canF w D (h : Int) a s = true then 1 else 0)), (0, 16)]) (S' := [(2, 192)]) r_142_49 rfl rfl rfl ?_
  refine gx_gf (x := 202) 2 r_142_50 (rfl) (ty_192 hT) ⟨by decide, rfl, by decide, by decide⟩ rfl (fun _ => by omega) (by show m1 192 18 = _; rw [e_m1, nu_no (by decide)]; exact pin_at hp (t := 202) rfl (by decide)) ?_
  refine gx_st (L' := [(2, 192), (0, (h : Int)), (0, a), (0, (h : Int) + 1), (0, (if canF w D (h : Int) a s = true then 1 else 0)), (0, 16)]) (S' := [(0, (h : Int)), (2, 202)]) r_142_53 rfl rfl rfl ?_
  refine gx_st (L' := [(2, 192), (0, (h : Int)), (0, a), (0, (h : Int) + 1), (0, (if canF w D (h : Int) a s = true then 1 else 0)), (0, 16)]) (S' := [(0, 0), (0, (h : Int)), (2, 202)]) r_142_54 rfl rfl rfl ?_
  obtain ⟨m2, e_m2⟩ : ∃ z, z = nu_up m1 202 h 0 := ⟨_, rfl⟩
  have rw_m2 : RowW nt m2 (h + 1) s := roww_e rw_m1 (fun i _ _ => by rw [e_m2, nu_no (by decide)])
  refine gx_is (n := h) (x := 0) r_142_55 (rfl) (by omega) (ty_202 hT) (by omega) ⟨rfl, by omega⟩ e_m2.symm ?_
  refine gx_st (L' := [(2, 192), (0, (h : Int)), (0, a), (0, (h : Int) + 1), (0, (if canF w D (h : Int) a s = true then 1 else 0)), (0, 16)]) (S' := [(2, 192)]) r_142_56 rfl rfl rfl ?_
  refine gx_st (L' := [(2, 192), (0, (h : Int)), (0, a), (0, (h : Int) + 1), (0, (if canF w D (h : Int) a s = true then 1 else 0)), (0, 16)]) (S' := [(0, (h : Int)), (2, 192)]) r_142_57 rfl rfl rfl ?_
  refine gx_st (L' := [(2, 192), (0, (h : Int)), (0, a), (0, (h : Int) + 1), (0, (if canF w D (h : Int) a s = true then 1 else 0)), (0, 16)]) (S' := [(0, 1), (0, (h : Int)), (2, 192)]) r_142_58 rfl rfl rfl ?_
  have pp_m2 : PinR m2 := by rw [e_m2, e_m1]; exact PinR_up (PinR_up hp rfl) rfl
  have c59_1 : m2 200 (16 * h + 1) = (b : Int) := by show m2 200 (16 * h + 1) = _; rw [e_m2, nu_no (by decide), e_m1, nu_no (by decide)]; exact (by rw [show 16 * h + 1 = 16 * h + 1 by omega]; exact (hr0.1.1 1 (by decide) (by decide)).trans hb)
  refine gx_ci (nx := 62) (S2 := []) (l_131 hT pp_m2 (h := h) (k := 1) (i := 16 * h + 1) (by omega) (by omega)) r_142_59 rfl rfl rfl rfl rfl (rcv_v rfl (ty_192 hT) (by decide) rfl (by decide)) rfl (by decide) rfl (fun x59_1 n59_1 q59_1 => ?_)
  obtain ⟨e_x59_1, z_x59_1⟩ := q59_1
  have y_x59_1 := z_x59_1.symm
  subst y_x59_1
  rw [e_x59_1, c59_1]
  show GX T 5 142 62 [(2, 192), (0, (h : Int)), (0, a), (0, (h : Int) + 1), (0, (if canF w D (h : Int) a s = true then 1 else 0)), (0, 16)] [(0, (b : Int))] m2 (RV (fun m1 => HourP nt m m1 h s (hourF w D (h : Int) a s).1 (hourF w D (h : Int) a s).2))
  refine gx_st (L' := [(2, 192), (0, (h : Int)), (0, a), (0, (h : Int) + 1), (0, (if canF w D (h : Int) a s = true then 1 else 0)), (0, 16)]) (S' := [(0, (-1)), (0, (b : Int))]) r_142_62 rfl rfl rfl ?_
  refine gx_ic (P := ¬ (b : Int) = (-1)) r_142_63 (rfl) (fun h63 => ?_) (fun h63 => ?_)
  · refine gx_st (L' := [(2, 192), (0, (h : Int)), (0, a), (0, (h : Int) + 1), (0, (if canF w D (h : Int) a s = true then 1 else 0)), (0, 16)]) (S' := [(2, 192)]) r_142_67 rfl rfl rfl ?_
    refine gx_st (L' := [(2, 192), (0, (h : Int)), (0, a), (0, (h : Int) + 1), (0, (if canF w D (h : Int) a s = true then 1 else 0)), (0, 16)]) (S' := [(0, (h : Int)), (2, 192)]) r_142_68 rfl rfl rfl ?_
    refine gx_st (L' := [(2, 192), (0, (h : Int)), (0, a), (0, (h : Int) + 1), (0, (if canF w D (h : Int) a s = true then 1 else 0)), (0, 16)]) (S' := [(0, 3), (0, (h : Int)), (2, 192)]) r_142_69 rfl rfl rfl ?_
    have pp_m2 : PinR m2 := by rw [e_m2, e_m1]; exact PinR_up (PinR_up hp rfl) rfl
    have c70_2 : m2 200 (16 * h + 3) = (max 0 (s 3 - (h : Int))) := by show m2 200 (16 * h + 3) = _; rw [e_m2, nu_no (by decide), e_m1, nu_no (by decide)]; exact (by rw [show 16 * h + 3 = 16 * h + 3 by omega]; exact hr0.2 (by omega))
    refine gx_ci (nx := 73) (S2 := []) (l_131 hT pp_m2 (h := h) (k := 3) (i := 16 * h + 3) (by omega) (by omega)) r_142_70 rfl rfl rfl rfl rfl (rcv_v rfl (ty_192 hT) (by decide) rfl (by decide)) rfl (by decide) rfl (fun x70_2 n70_2 q70_2 => ?_)
    obtain ⟨e_x70_2, z_x70_2⟩ := q70_2
    have y_x70_2 := z_x70_2.symm
    subst y_x70_2
    rw [e_x70_2, c70_2]
    show GX T 5 142 73 [(2, 192), (0, (h : Int)), (0, a), (0, (h : Int) + 1), (0, (if canF w D (h : Int) a s = true then 1 else 0)), (0, 16)] [(0, (max 0 (s 3 - (h : Int))))] m2 (RV (fun m1 => HourP nt m m1 h s (hourF w D (h : Int) a s).1 (hourF w D (h : Int) a s).2))
    refine gx_st (L' := [(2, 192), (0, (h : Int)), (0, a), (0, (h : Int) + 1), (0, (if canF w D (h : Int) a s = true then 1 else 0)), (0, (max 0 (s 3 - (h : Int))))]) (S' := []) r_142_73 rfl rfl rfl ?_
    refine gx_st (L' := [(2, 192), (0, (h : Int)), (0, a), (0, (h : Int) + 1), (0, (if canF w D (h : Int) a s = true then 1 else 0)), (0, (max 0 (s 3 - (h : Int))))]) (S' := [(0, (if canF w D (h : Int) a s = true then 1 else 0))]) r_142_75 rfl rfl rfl ?_
    refine gx_i0 (P := ¬ (canF w D (h : Int) a s = true)) r_142_77 (b01_eq) (fun h77 => ?_) (fun h77 => ?_)
    · refine gx_st (L' := [(2, 192), (0, (h : Int)), (0, a), (0, (h : Int) + 1), (0, (if canF w D (h : Int) a s = true then 1 else 0)), (0, (max 0 (s 3 - (h : Int))))]) (S' := [(2, 192)]) r_142_109 rfl rfl rfl ?_
      refine gx_gf (x := 202) 2 r_142_110 (rfl) (ty_192 hT) ⟨by decide, rfl, by decide, by decide⟩ rfl (fun _ => by omega) (by show m2 192 18 = _; rw [e_m2, nu_no (by decide), e_m1, nu_no (by decide)]; exact pin_at hp (t := 202) rfl (by decide)) ?_
      refine gx_st (L' := [(2, 192), (0, (h : Int)), (0, a), (0, (h : Int) + 1), (0, (if canF w D (h : Int) a s = true then 1 else 0)), (0, (max 0 (s 3 - (h : Int))))]) (S' := [(0, (h : Int)), (2, 202)]) r_142_113 rfl rfl rfl ?_
      refine gx_st (L' := [(2, 192), (0, (h : Int)), (0, a), (0, (h : Int) + 1), (0, (if canF w D (h : Int) a s = true then 1 else 0)), (0, (max 0 (s 3 - (h : Int))))]) (S' := [(0, (max 0 (s 3 - (h : Int)))), (0, (h : Int)), (2, 202)]) r_142_114 rfl rfl rfl ?_
      refine gx_i0 (P := (max 0 (s 3 - (h : Int))) ≤ 0) r_142_116 (rfl) (fun h116 => ?_) (fun h116 => ?_)
      · refine gx_st (L' := [(2, 192), (0, (h : Int)), (0, a), (0, (h : Int) + 1), (0, (if canF w D (h : Int) a s = true then 1 else 0)), (0, (max 0 (s 3 - (h : Int))))]) (S' := [(0, 0), (0, (h : Int)), (2, 202)]) r_142_123 rfl rfl rfl ?_
        obtain ⟨m3, e_m3⟩ : ∃ z, z = nu_up m2 202 h 0 := ⟨_, rfl⟩
        have rw_m3 : RowW nt m3 (h + 1) s := roww_e rw_m2 (fun i _ _ => by rw [e_m3, nu_no (by decide)])
        refine gx_is (n := h) (x := 0) r_142_124 (rfl) (by omega) (ty_202 hT) (by omega) ⟨rfl, by omega⟩ e_m3.symm ?_
        refine gx_st (L' := [(2, 192), (0, (h : Int)), (0, a), (0, (h : Int) + 1), (0, (if canF w D (h : Int) a s = true then 1 else 0)), (0, (max 0 (s 3 - (h : Int))))]) (S' := [(2, 192)]) r_142_125 rfl rfl rfl ?_
        refine gx_st (L' := [(2, 192), (0, (h : Int)), (0, a), (0, (h : Int) + 1), (0, (if canF w D (h : Int) a s = true then 1 else 0)), (0, (max 0 (s 3 - (h : Int))))]) (S' := [(0, (h : Int) + 1), (2, 192)]) r_142_126 rfl rfl rfl ?_
        refine gx_st (L' := [(2, 192), (0, (h : Int)), (0, a), (0, (h : Int) + 1), (0, (if canF w D (h : Int) a s = true then 1 else 0)), (0, (max 0 (s 3 - (h : Int))))]) (S' := [(0, 3), (0, (h : Int) + 1), (2, 192)]) r_142_127 rfl rfl rfl ?_
        refine gx_st (L' := [(2, 192), (0, (h : Int)), (0, a), (0, (h : Int) + 1), (0, (if canF w D (h : Int) a s = true then 1 else 0)), (0, (max 0 (s 3 - (h : Int))))]) (S' := [(0, 0), (0, 3), (0, (h : Int) + 1), (2, 192)]) r_142_128 rfl rfl rfl ?_
        refine gx_st (L' := [(2, 192), (0, (h : Int)), (0, a), (0, (h : Int) + 1), (0, (if canF w D (h : Int) a s = true then 1 else 0)), (0, (max 0 (s 3 - (h : Int))))]) (S' := [(0, (max 0 (s 3 - (h : Int)))), (0, 0), (0, 3), (0, (h : Int) + 1), (2, 192)]) r_142_129 rfl rfl rfl ?_
        refine gx_st (L' := [(2, 192), (0, (h : Int)), (0, a), (0, (h : Int) + 1), (0, (if canF w D (h : Int) a s = true then 1 else 0)), (0, (max 0 (s 3 - (h : Int))))]) (S' := [(0, 1), (0, (max 0 (s 3 - (h : Int)))), (0, 0), (0, 3), (0, (h : Int) + 1), (2, 192)]) r_142_131 rfl rfl rfl ?_
        refine gx_ar (L' := [(2, 192), (0, (h : Int)), (0, a), (0, (h : Int) + 1), (0, (if canF w D (h : Int) a s = true then 1 else 0)), (0, (max 0 (s 3 - (h : Int))))]) (S' := [(0, 0), (0, 3), (0, (h : Int) + 1), (2, 192)]) (t := 0) (e := w32 (((max 0 (s 3 - (h : Int)))) - 1)) (z := (max 0 (s 3 - (h : Int))) - 1) r_142_132 rfl rfl rfl (w32_eq (by omega) (by omega) (by omega)) ?_
        refine gx_st (L' := [(2, 192), (0, (h : Int)), (0, a), (0, (h : Int) + 1), (0, (if canF w D (h : Int) a s = true then 1 else 0)), (0, (max 0 (s 3 - (h : Int))))]) (S' := [(0, (max 0 ((max 0 (s 3 - (h : Int))) - 1))), (0, 3), (0, (h : Int) + 1), (2, 192)]) r_142_133 rfl rfl rfl ?_
        have pp_m3 : PinR m3 := by rw [e_m3, e_m2, e_m1]; exact PinR_up (PinR_up (PinR_up hp rfl) rfl) rfl
        refine gx_cv (nx := 139) (S2 := []) (l_132 hT pp_m3 (h := h + 1) (k := 3) (i := 16 * h + 19) (by omega) (by omega) ((max 0 ((max 0 (s 3 - (h : Int))) - 1)))) r_142_136 rfl rfl rfl rfl rfl (rcv_v rfl (ty_192 hT) (by decide) rfl (by decide)) rfl (by decide) rfl (fun n136_3 q136_3 => ?_)
        have e_n136_3 : n136_3 = nu_up m3 200 (16 * h + 19) ((max 0 ((max 0 (s 3 - (h : Int))) - 1))) := q136_3
        have rw_n136_3 : RowW nt n136_3 (h + 1) s := by
          rw [e_n136_3]
          refine ⟨fun q hq h3 => ?_, fun q hq => ?_, fun t ht hn => ?_⟩
          · rw [nu_ne (by omega)]; exact rw_m3.1 q hq h3
          · rw [nu_ne (by omega)]; exact rw_m3.2.1 q hq
          · rw [nu_ne (by omega)]; exact rw_m3.2.2 t ht hn
        show GX T 5 142 139 [(2, 192), (0, (h : Int)), (0, a), (0, (h : Int) + 1), (0, (if canF w D (h : Int) a s = true then 1 else 0)), (0, (max 0 (s 3 - (h : Int))))] [] n136_3 (RV (fun m1 => HourP nt m m1 h s (hourF w D (h : Int) a s).1 (hourF w D (h : Int) a s).2))
        refine gx_st (L' := [(2, 192), (0, (h : Int)), (0, a), (0, (h : Int) + 1), (0, (if canF w D (h : Int) a s = true then 1 else 0)), (0, (max 0 (s 3 - (h : Int))))]) (S' := [(0, (max 0 (s 3 - (h : Int))))]) r_142_139 rfl rfl rfl ?_
        refine gx_i0 (P := ¬ (max 0 (s 3 - (h : Int))) = 0) r_142_141 (rfl) (fun h141 => ?_) (fun h141 => ?_)
        · omega
        · have h141 := Decidable.not_not.mp h141
          refine gx_st (L' := [(2, 192), (0, (h : Int)), (0, a), (0, (h : Int) + 1), (0, (if canF w D (h : Int) a s = true then 1 else 0)), (0, (max 0 (s 3 - (h : Int))))]) (S' := [(2, 192)]) r_142_144 rfl rfl rfl ?_
          refine gx_st (L' := [(2, 192), (0, (h : Int)), (0, a), (0, (h : Int) + 1), (0, (if canF w D (h : Int) a s = true then 1 else 0)), (0, (max 0 (s 3 - (h : Int))))]) (S' := [(0, (h : Int)), (2, 192)]) r_142_145 rfl rfl rfl ?_
          have ew_n136_3 : EW nt n136_3 w := ew_e hE (fun i => by rw [e_n136_3, nu_x (by omega), e_m3, nu_x (by omega), e_m2, nu_x (by omega), e_m1, nu_x (by omega)]) (fun i u1 u2 => by rw [e_n136_3, nu_x (by omega), e_m3, nu_x (by omega), e_m2, nu_x (by omega), e_m1, nu_x (by omega)])
          have pp_n136_3 : PinR n136_3 := by rw [e_n136_3, e_m3, e_m2, e_m1]; exact PinR_up (PinR_up (PinR_up (PinR_up hp rfl) rfl) rfl) rfl
          have r0_n136_3 : RowR nt n136_3 h s := row_e hr0 (fun i u1 u2 => by rw [e_n136_3, nu_x (by omega), e_m3, nu_x (by omega), e_m2, nu_x (by omega), e_m1, nu_x (by omega)])
          have z3_n136_3 : n136_3 200 (16 * h + 19) = max 0 (s 3 - ((h + 1 : Nat) : Int)) := by
            rw [e_n136_3, nu_at]; omega
          have r1_n136_3 : RowR nt n136_3 (h + 1) s := ⟨rw_n136_3, fun _ => by rw [show 16 * (h + 1) + 3 = 16 * h + 19 by omega]; exact z3_n136_3⟩
          have q22_n136_3 : n136_3 192 22 = s 16 := by rw [e_n136_3, nu_x (by omega), e_m3, nu_x (by omega), e_m2, nu_x (by omega), e_m1, nu_x (by omega)]; exact k22
          have q204_n136_3 : ∀ c : Nat, c < 5 → 0 ≤ n136_3 204 c ∧ n136_3 204 c ≤ 20 := fun c hc => by rw [e_n136_3, nu_x (by omega), e_m3, nu_x (by omega), e_m2, nu_x (by omega), e_m1, nu_x (by omega)]; exact k204 c hc
          have tr_n136_3 : n136_3 192 21 = m 192 21 := by rw [e_n136_3, nu_x (by omega), e_m3, nu_x (by omega), e_m2, nu_x (by omega), e_m1, nu_x (by omega)]
          have tc_n136_3 : ∀ c : Nat, n136_3 204 c = m 204 c := fun c => by rw [e_n136_3, nu_x (by omega), e_m3, nu_x (by omega), e_m2, nu_x (by omega), e_m1, nu_x (by omega)]
          have tf_n136_3 : ∀ p i : Nat, ¬ (p = 200 ∧ 16 * h + 16 ≤ i ∧ i < 16 * h + 32) → ¬ (p = 201 ∧ i = h) → ¬ (p = 202 ∧ i = h) → ¬ p = 204 → ¬ (p = 192 ∧ (i = 21 ∨ i = 22)) → n136_3 p i = m p i := fun p i x1 x2 x3 x4 x5 => by rw [e_n136_3, nu_x (by omega), e_m3, nu_x (by omega), e_m2, nu_x (by omega), e_m1, nu_x (by omega)]
          have ed_n136_3 : ∀ a b : Nat, a < 7 → b < 7 → n136_3 199 (7 * a + b) = D a b := fun x y hx hy => by rw [e_n136_3, nu_x (by omega), e_m3, nu_x (by omega), e_m2, nu_x (by omega), e_m1, nu_x (by omega)]; exact eD x y hx hy
          refine gx_cv (nx := 149) (S2 := []) (y_141 hT pp_n136_3 hB ew_n136_3 hP ed_n136_3 hD hh r0_n136_3 r1_n136_3 hb hb7 hps hpn k2 k6 k11 hnt q22_n136_3 q204_n136_3 (by omega)) r_142_146 rfl rfl rfl rfl rfl (rcv_v rfl (ty_192 hT) (by decide) rfl (by decide)) rfl (by decide) rfl (fun n146_4 q146_4 => ?_)
          have hqn146_4 := hourp_tr q146_4 tr_n136_3 tc_n136_3 tf_n136_3
          show GX T 5 142 149 [(2, 192), (0, (h : Int)), (0, a), (0, (h : Int) + 1), (0, (if canF w D (h : Int) a s = true then 1 else 0)), (0, (max 0 (s 3 - (h : Int))))] [] n146_4 (RV (fun m1 => HourP nt m m1 h s (hourF w D (h : Int) a s).1 (hourF w D (h : Int) a s).2))
          refine gx_st (L' := [(2, 192), (0, (h : Int)), (0, a), (0, (h : Int) + 1), (0, (if canF w D (h : Int) a s = true then 1 else 0)), (0, (max 0 (s 3 - (h : Int))))]) (S' := []) r_142_149 rfl rfl rfl ?_
          exact gx_rt r_142_208 rfl rfl ⟨rfl, by rw [hour_go hb1 h77]; exact hqn146_4⟩
      · refine gx_st (L' := [(2, 192), (0, (h : Int)), (0, a), (0, (h : Int) + 1), (0, (if canF w D (h : Int) a s = true then 1 else 0)), (0, (max 0 (s 3 - (h : Int))))]) (S' := [(0, 1), (0, (h : Int)), (2, 202)]) r_142_119 rfl rfl rfl ?_
        refine gx_st (L' := [(2, 192), (0, (h : Int)), (0, a), (0, (h : Int) + 1), (0, (if canF w D (h : Int) a s = true then 1 else 0)), (0, (max 0 (s 3 - (h : Int))))]) (S' := [(0, 1), (0, (h : Int)), (2, 202)]) r_142_120 rfl rfl rfl ?_
        obtain ⟨m4, e_m4⟩ : ∃ z, z = nu_up m2 202 h 1 := ⟨_, rfl⟩
        have rw_m4 : RowW nt m4 (h + 1) s := roww_e rw_m2 (fun i _ _ => by rw [e_m4, nu_no (by decide)])
        refine gx_is (n := h) (x := 1) r_142_124 (rfl) (by omega) (ty_202 hT) (by omega) ⟨rfl, by omega⟩ e_m4.symm ?_
        refine gx_st (L' := [(2, 192), (0, (h : Int)), (0, a), (0, (h : Int) + 1), (0, (if canF w D (h : Int) a s = true then 1 else 0)), (0, (max 0 (s 3 - (h : Int))))]) (S' := [(2, 192)]) r_142_125 rfl rfl rfl ?_
        refine gx_st (L' := [(2, 192), (0, (h : Int)), (0, a), (0, (h : Int) + 1), (0, (if canF w D (h : Int) a s = true then 1 else 0)), (0, (max 0 (s 3 - (h : Int))))]) (S' := [(0, (h : Int) + 1), (2, 192)]) r_142_126 rfl rfl rfl ?_
        refine gx_st (L' := [(2, 192), (0, (h : Int)), (0, a), (0, (h : Int) + 1), (0, (if canF w D (h : Int) a s = true then 1 else 0)), (0, (max 0 (s 3 - (h : Int))))]) (S' := [(0, 3), (0, (h : Int) + 1), (2, 192)]) r_142_127 rfl rfl rfl ?_
        refine gx_st (L' := [(2, 192), (0, (h : Int)), (0, a), (0, (h : Int) + 1), (0, (if canF w D (h : Int) a s = true then 1 else 0)), (0, (max 0 (s 3 - (h : Int))))]) (S' := [(0, 0), (0, 3), (0, (h : Int) + 1), (2, 192)]) r_142_128 rfl rfl rfl ?_
        refine gx_st (L' := [(2, 192), (0, (h : Int)), (0, a), (0, (h : Int) + 1), (0, (if canF w D (h : Int) a s = true then 1 else 0)), (0, (max 0 (s 3 - (h : Int))))]) (S' := [(0, (max 0 (s 3 - (h : Int)))), (0, 0), (0, 3), (0, (h : Int) + 1), (2, 192)]) r_142_129 rfl rfl rfl ?_
        refine gx_st (L' := [(2, 192), (0, (h : Int)), (0, a), (0, (h : Int) + 1), (0, (if canF w D (h : Int) a s = true then 1 else 0)), (0, (max 0 (s 3 - (h : Int))))]) (S' := [(0, 1), (0, (max 0 (s 3 - (h : Int)))), (0, 0), (0, 3), (0, (h : Int) + 1), (2, 192)]) r_142_131 rfl rfl rfl ?_
        refine gx_ar (L' := [(2, 192), (0, (h : Int)), (0, a), (0, (h : Int) + 1), (0, (if canF w D (h : Int) a s = true then 1 else 0)), (0, (max 0 (s 3 - (h : Int))))]) (S' := [(0, 0), (0, 3), (0, (h : Int) + 1), (2, 192)]) (t := 0) (e := w32 (((max 0 (s 3 - (h : Int)))) - 1)) (z := (max 0 (s 3 - (h : Int))) - 1) r_142_132 rfl rfl rfl (w32_eq (by omega) (by omega) (by omega)) ?_
        refine gx_st (L' := [(2, 192), (0, (h : Int)), (0, a), (0, (h : Int) + 1), (0, (if canF w D (h : Int) a s = true then 1 else 0)), (0, (max 0 (s 3 - (h : Int))))]) (S' := [(0, (max 0 ((max 0 (s 3 - (h : Int))) - 1))), (0, 3), (0, (h : Int) + 1), (2, 192)]) r_142_133 rfl rfl rfl ?_
        have pp_m4 : PinR m4 := by rw [e_m4, e_m2, e_m1]; exact PinR_up (PinR_up (PinR_up hp rfl) rfl) rfl
        refine gx_cv (nx := 139) (S2 := []) (l_132 hT pp_m4 (h := h + 1) (k := 3) (i := 16 * h + 19) (by omega) (by omega) ((max 0 ((max 0 (s 3 - (h : Int))) - 1)))) r_142_136 rfl rfl rfl rfl rfl (rcv_v rfl (ty_192 hT) (by decide) rfl (by decide)) rfl (by decide) rfl (fun n136_4 q136_4 => ?_)
        have e_n136_4 : n136_4 = nu_up m4 200 (16 * h + 19) ((max 0 ((max 0 (s 3 - (h : Int))) - 1))) := q136_4
        have rw_n136_4 : RowW nt n136_4 (h + 1) s := by
          rw [e_n136_4]
          refine ⟨fun q hq h3 => ?_, fun q hq => ?_, fun t ht hn => ?_⟩
          · rw [nu_ne (by omega)]; exact rw_m4.1 q hq h3
          · rw [nu_ne (by omega)]; exact rw_m4.2.1 q hq
          · rw [nu_ne (by omega)]; exact rw_m4.2.2 t ht hn
        show GX T 5 142 139 [(2, 192), (0, (h : Int)), (0, a), (0, (h : Int) + 1), (0, (if canF w D (h : Int) a s = true then 1 else 0)), (0, (max 0 (s 3 - (h : Int))))] [] n136_4 (RV (fun m1 => HourP nt m m1 h s (hourF w D (h : Int) a s).1 (hourF w D (h : Int) a s).2))
        refine gx_st (L' := [(2, 192), (0, (h : Int)), (0, a), (0, (h : Int) + 1), (0, (if canF w D (h : Int) a s = true then 1 else 0)), (0, (max 0 (s 3 - (h : Int))))]) (S' := [(0, (max 0 (s 3 - (h : Int))))]) r_142_139 rfl rfl rfl ?_
        refine gx_i0 (P := ¬ (max 0 (s 3 - (h : Int))) = 0) r_142_141 (rfl) (fun h141 => ?_) (fun h141 => ?_)
        · refine gx_st (L' := [(2, 192), (0, (h : Int)), (0, a), (0, (h : Int) + 1), (0, (if canF w D (h : Int) a s = true then 1 else 0)), (0, (max 0 (s 3 - (h : Int))))]) (S' := [(0, (if canF w D (h : Int) a s = true then 1 else 0))]) r_142_152 rfl rfl rfl ?_
          refine gx_i0 (P := ¬ (canF w D (h : Int) a s = true)) r_142_154 (b01_eq) (fun h154 => ?_) (fun h154 => ?_)
          · refine gx_st (L' := [(2, 192), (0, (h : Int)), (0, a), (0, (h : Int) + 1), (0, (if canF w D (h : Int) a s = true then 1 else 0)), (0, (max 0 (s 3 - (h : Int))))]) (S' := [(0, (if canF w D (h : Int) a s = true then 1 else 0))]) r_142_178 rfl rfl rfl ?_
            refine gx_i0 (P := ¬ (canF w D (h : Int) a s = true)) r_142_180 (b01_eq) (fun h180 => ?_) (fun h180 => ?_)
            · refine gx_st (L' := [(2, 192), (0, (h : Int)), (0, a), (0, (h : Int) + 1), (0, (if canF w D (h : Int) a s = true then 1 else 0)), (0, (max 0 (s 3 - (h : Int))))]) (S' := [(2, 192)]) r_142_201 rfl rfl rfl ?_
              refine gx_gf (x := 201) 2 r_142_202 (rfl) (ty_192 hT) ⟨by decide, rfl, by decide, by decide⟩ rfl (fun _ => by omega) (by show n136_4 192 17 = _; rw [e_n136_4, nu_no (by decide), e_m4, nu_no (by decide), e_m2, nu_no (by decide), e_m1, nu_no (by decide)]; exact pin_at hp (t := 201) rfl (by decide)) ?_
              refine gx_st (L' := [(2, 192), (0, (h : Int)), (0, a), (0, (h : Int) + 1), (0, (if canF w D (h : Int) a s = true then 1 else 0)), (0, (max 0 (s 3 - (h : Int))))]) (S' := [(0, (h : Int)), (2, 201)]) r_142_205 rfl rfl rfl ?_
              refine gx_st (L' := [(2, 192), (0, (h : Int)), (0, a), (0, (h : Int) + 1), (0, (if canF w D (h : Int) a s = true then 1 else 0)), (0, (max 0 (s 3 - (h : Int))))]) (S' := [(0, 1), (0, (h : Int)), (2, 201)]) r_142_206 rfl rfl rfl ?_
              obtain ⟨m5, e_m5⟩ : ∃ z, z = nu_up n136_4 201 h 1 := ⟨_, rfl⟩
              have rw_m5 : RowW nt m5 (h + 1) s := roww_e rw_n136_4 (fun i _ _ => by rw [e_m5, nu_no (by decide)])
              refine gx_is (n := h) (x := 1) r_142_207 (rfl) (by omega) (ty_201 hT) (by omega) ⟨rfl, by omega⟩ e_m5.symm ?_
              have z3 : m5 200 (16 * h + 19) = (max 0 ((max 0 (s 3 - (h : Int))) - 1)) := by rw [e_m5, nu_no (by decide), e_n136_4, nu_at]
              exact gx_rt r_142_208 rfl rfl ⟨rfl, by
                rw [hour_go hb1 h77, go_sl (by omega)]
                exact hourp_st (s2 := s) (v := 1) (by decide) rfl rfl k22 rw_m5 (fun _ => by rw [z3]; omega) (by show m5 201 h = _; rw [e_m5, nu_at]) (by show m5 192 21 = _; rw [e_m5, nu_no (by decide), e_n136_4, nu_no (by decide), e_m4, nu_no (by decide), e_m2, nu_no (by decide), e_m1, nu_no (by decide)]) (by show m5 192 22 = _; rw [e_m5, nu_no (by decide), e_n136_4, nu_no (by decide), e_m4, nu_no (by decide), e_m2, nu_no (by decide), e_m1, nu_no (by decide)]) (fun c => by rw [e_m5, nu_x (by omega), e_n136_4, nu_x (by omega), e_m4, nu_x (by omega), e_m2, nu_x (by omega), e_m1, nu_x (by omega)]) (fun p i x1 x2 x3 x4 x5 => by rw [e_m5, nu_x (by omega), e_n136_4, nu_x (by omega), e_m4, nu_x (by omega), e_m2, nu_x (by omega), e_m1, nu_x (by omega)])⟩
            · have h180 := Decidable.not_not.mp h180
              exact absurd h180 h77
          · have h154 := Decidable.not_not.mp h154
            exact absurd h154 h77
        · have h141 := Decidable.not_not.mp h141
          omega
    · have h77 := Decidable.not_not.mp h77
      refine gx_st (L' := [(2, 192), (0, (h : Int)), (0, a), (0, (h : Int) + 1), (0, (if canF w D (h : Int) a s = true then 1 else 0)), (0, (max 0 (s 3 - (h : Int))))]) (S' := [(0, a)]) r_142_80 rfl rfl rfl ?_
      refine gx_st (L' := [(2, 192), (0, (h : Int)), (0, a), (0, (h : Int) + 1), (0, (if canF w D (h : Int) a s = true then 1 else 0)), (0, (max 0 (s 3 - (h : Int))))]) (S' := [(0, 1), (0, a)]) r_142_81 rfl rfl rfl ?_
      refine gx_ic (P := ¬ a = 1) r_142_82 (rfl) (fun h82 => ?_) (fun h82 => ?_)
      · refine gx_st (L' := [(2, 192), (0, (h : Int)), (0, a), (0, (h : Int) + 1), (0, (if canF w D (h : Int) a s = true then 1 else 0)), (0, (max 0 (s 3 - (h : Int))))]) (S' := [(2, 192)]) r_142_109 rfl rfl rfl ?_
        refine gx_gf (x := 202) 2 r_142_110 (rfl) (ty_192 hT) ⟨by decide, rfl, by decide, by decide⟩ rfl (fun _ => by omega) (by show m2 192 18 = _; rw [e_m2, nu_no (by decide), e_m1, nu_no (by decide)]; exact pin_at hp (t := 202) rfl (by decide)) ?_
        refine gx_st (L' := [(2, 192), (0, (h : Int)), (0, a), (0, (h : Int) + 1), (0, (if canF w D (h : Int) a s = true then 1 else 0)), (0, (max 0 (s 3 - (h : Int))))]) (S' := [(0, (h : Int)), (2, 202)]) r_142_113 rfl rfl rfl ?_
        refine gx_st (L' := [(2, 192), (0, (h : Int)), (0, a), (0, (h : Int) + 1), (0, (if canF w D (h : Int) a s = true then 1 else 0)), (0, (max 0 (s 3 - (h : Int))))]) (S' := [(0, (max 0 (s 3 - (h : Int)))), (0, (h : Int)), (2, 202)]) r_142_114 rfl rfl rfl ?_
        refine gx_i0 (P := (max 0 (s 3 - (h : Int))) ≤ 0) r_142_116 (rfl) (fun h116 => ?_) (fun h116 => ?_)
        · refine gx_st (L' := [(2, 192), (0, (h : Int)), (0, a), (0, (h : Int) + 1), (0, (if canF w D (h : Int) a s = true then 1 else 0)), (0, (max 0 (s 3 - (h : Int))))]) (S' := [(0, 0), (0, (h : Int)), (2, 202)]) r_142_123 rfl rfl rfl ?_
          obtain ⟨m3, e_m3⟩ : ∃ z, z = nu_up m2 202 h 0 := ⟨_, rfl⟩
          have rw_m3 : RowW nt m3 (h + 1) s := roww_e rw_m2 (fun i _ _ => by rw [e_m3, nu_no (by decide)])
          refine gx_is (n := h) (x := 0) r_142_124 (rfl) (by omega) (ty_202 hT) (by omega) ⟨rfl, by omega⟩ e_m3.symm ?_
          refine gx_st (L' := [(2, 192), (0, (h : Int)), (0, a), (0, (h : Int) + 1), (0, (if canF w D (h : Int) a s = true then 1 else 0)), (0, (max 0 (s 3 - (h : Int))))]) (S' := [(2, 192)]) r_142_125 rfl rfl rfl ?_
          refine gx_st (L' := [(2, 192), (0, (h : Int)), (0, a), (0, (h : Int) + 1), (0, (if canF w D (h : Int) a s = true then 1 else 0)), (0, (max 0 (s 3 - (h : Int))))]) (S' := [(0, (h : Int) + 1), (2, 192)]) r_142_126 rfl rfl rfl ?_
          refine gx_st (L' := [(2, 192), (0, (h : Int)), (0, a), (0, (h : Int) + 1), (0, (if canF w D (h : Int) a s = true then 1 else 0)), (0, (max 0 (s 3 - (h : Int))))]) (S' := [(0, 3), (0, (h : Int) + 1), (2, 192)]) r_142_127 rfl rfl rfl ?_
          refine gx_st (L' := [(2, 192), (0, (h : Int)), (0, a), (0, (h : Int) + 1), (0, (if canF w D (h : Int) a s = true then 1 else 0)), (0, (max 0 (s 3 - (h : Int))))]) (S' := [(0, 0), (0, 3), (0, (h : Int) + 1), (2, 192)]) r_142_128 rfl rfl rfl ?_
          refine gx_st (L' := [(2, 192), (0, (h : Int)), (0, a), (0, (h : Int) + 1), (0, (if canF w D (h : Int) a s = true then 1 else 0)), (0, (max 0 (s 3 - (h : Int))))]) (S' := [(0, (max 0 (s 3 - (h : Int)))), (0, 0), (0, 3), (0, (h : Int) + 1), (2, 192)]) r_142_129 rfl rfl rfl ?_
          refine gx_st (L' := [(2, 192), (0, (h : Int)), (0, a), (0, (h : Int) + 1), (0, (if canF w D (h : Int) a s = true then 1 else 0)), (0, (max 0 (s 3 - (h : Int))))]) (S' := [(0, 1), (0, (max 0 (s 3 - (h : Int)))), (0, 0), (0, 3), (0, (h : Int) + 1), (2, 192)]) r_142_131 rfl rfl rfl ?_
          refine gx_ar (L' := [(2, 192), (0, (h : Int)), (0, a), (0, (h : Int) + 1), (0, (if canF w D (h : Int) a s = true then 1 else 0)), (0, (max 0 (s 3 - (h : Int))))]) (S' := [(0, 0), (0, 3), (0, (h : Int) + 1), (2, 192)]) (t := 0) (e := w32 (((max 0 (s 3 - (h : Int)))) - 1)) (z := (max 0 (s 3 - (h : Int))) - 1) r_142_132 rfl rfl rfl (w32_eq (by omega) (by omega) (by omega)) ?_
          refine gx_st (L' := [(2, 192), (0, (h : Int)), (0, a), (0, (h : Int) + 1), (0, (if canF w D (h : Int) a s = true then 1 else 0)), (0, (max 0 (s 3 - (h : Int))))]) (S' := [(0, (max 0 ((max 0 (s 3 - (h : Int))) - 1))), (0, 3), (0, (h : Int) + 1), (2, 192)]) r_142_133 rfl rfl rfl ?_
          have pp_m3 : PinR m3 := by rw [e_m3, e_m2, e_m1]; exact PinR_up (PinR_up (PinR_up hp rfl) rfl) rfl
          refine gx_cv (nx := 139) (S2 := []) (l_132 hT pp_m3 (h := h + 1) (k := 3) (i := 16 * h + 19) (by omega) (by omega) ((max 0 ((max 0 (s 3 - (h : Int))) - 1)))) r_142_136 rfl rfl rfl rfl rfl (rcv_v rfl (ty_192 hT) (by decide) rfl (by decide)) rfl (by decide) rfl (fun n136_3 q136_3 => ?_)
          have e_n136_3 : n136_3 = nu_up m3 200 (16 * h + 19) ((max 0 ((max 0 (s 3 - (h : Int))) - 1))) := q136_3
          have rw_n136_3 : RowW nt n136_3 (h + 1) s := by
            rw [e_n136_3]
            refine ⟨fun q hq h3 => ?_, fun q hq => ?_, fun t ht hn => ?_⟩
            · rw [nu_ne (by omega)]; exact rw_m3.1 q hq h3
            · rw [nu_ne (by omega)]; exact rw_m3.2.1 q hq
            · rw [nu_ne (by omega)]; exact rw_m3.2.2 t ht hn
          show GX T 5 142 139 [(2, 192), (0, (h : Int)), (0, a), (0, (h : Int) + 1), (0, (if canF w D (h : Int) a s = true then 1 else 0)), (0, (max 0 (s 3 - (h : Int))))] [] n136_3 (RV (fun m1 => HourP nt m m1 h s (hourF w D (h : Int) a s).1 (hourF w D (h : Int) a s).2))
          refine gx_st (L' := [(2, 192), (0, (h : Int)), (0, a), (0, (h : Int) + 1), (0, (if canF w D (h : Int) a s = true then 1 else 0)), (0, (max 0 (s 3 - (h : Int))))]) (S' := [(0, (max 0 (s 3 - (h : Int))))]) r_142_139 rfl rfl rfl ?_
          refine gx_i0 (P := ¬ (max 0 (s 3 - (h : Int))) = 0) r_142_141 (rfl) (fun h141 => ?_) (fun h141 => ?_)
          · omega
          · have h141 := Decidable.not_not.mp h141
            exact absurd (can_dr h77 h82) (by omega)
        · refine gx_st (L' := [(2, 192), (0, (h : Int)), (0, a), (0, (h : Int) + 1), (0, (if canF w D (h : Int) a s = true then 1 else 0)), (0, (max 0 (s 3 - (h : Int))))]) (S' := [(0, 1), (0, (h : Int)), (2, 202)]) r_142_119 rfl rfl rfl ?_
          refine gx_st (L' := [(2, 192), (0, (h : Int)), (0, a), (0, (h : Int) + 1), (0, (if canF w D (h : Int) a s = true then 1 else 0)), (0, (max 0 (s 3 - (h : Int))))]) (S' := [(0, 1), (0, (h : Int)), (2, 202)]) r_142_120 rfl rfl rfl ?_
          obtain ⟨m4, e_m4⟩ : ∃ z, z = nu_up m2 202 h 1 := ⟨_, rfl⟩
          have rw_m4 : RowW nt m4 (h + 1) s := roww_e rw_m2 (fun i _ _ => by rw [e_m4, nu_no (by decide)])
          refine gx_is (n := h) (x := 1) r_142_124 (rfl) (by omega) (ty_202 hT) (by omega) ⟨rfl, by omega⟩ e_m4.symm ?_
          refine gx_st (L' := [(2, 192), (0, (h : Int)), (0, a), (0, (h : Int) + 1), (0, (if canF w D (h : Int) a s = true then 1 else 0)), (0, (max 0 (s 3 - (h : Int))))]) (S' := [(2, 192)]) r_142_125 rfl rfl rfl ?_
          refine gx_st (L' := [(2, 192), (0, (h : Int)), (0, a), (0, (h : Int) + 1), (0, (if canF w D (h : Int) a s = true then 1 else 0)), (0, (max 0 (s 3 - (h : Int))))]) (S' := [(0, (h : Int) + 1), (2, 192)]) r_142_126 rfl rfl rfl ?_
          refine gx_st (L' := [(2, 192), (0, (h : Int)), (0, a), (0, (h : Int) + 1), (0, (if canF w D (h : Int) a s = true then 1 else 0)), (0, (max 0 (s 3 - (h : Int))))]) (S' := [(0, 3), (0, (h : Int) + 1), (2, 192)]) r_142_127 rfl rfl rfl ?_
          refine gx_st (L' := [(2, 192), (0, (h : Int)), (0, a), (0, (h : Int) + 1), (0, (if canF w D (h : Int) a s = true then 1 else 0)), (0, (max 0 (s 3 - (h : Int))))]) (S' := [(0, 0), (0, 3), (0, (h : Int) + 1), (2, 192)]) r_142_128 rfl rfl rfl ?_
          refine gx_st (L' := [(2, 192), (0, (h : Int)), (0, a), (0, (h : Int) + 1), (0, (if canF w D (h : Int) a s = true then 1 else 0)), (0, (max 0 (s 3 - (h : Int))))]) (S' := [(0, (max 0 (s 3 - (h : Int)))), (0, 0), (0, 3), (0, (h : Int) + 1), (2, 192)]) r_142_129 rfl rfl rfl ?_
          refine gx_st (L' := [(2, 192), (0, (h : Int)), (0, a), (0, (h : Int) + 1), (0, (if canF w D (h : Int) a s = true then 1 else 0)), (0, (max 0 (s 3 - (h : Int))))]) (S' := [(0, 1), (0, (max 0 (s 3 - (h : Int)))), (0, 0), (0, 3), (0, (h : Int) + 1), (2, 192)]) r_142_131 rfl rfl rfl ?_
          refine gx_ar (L' := [(2, 192), (0, (h : Int)), (0, a), (0, (h : Int) + 1), (0, (if canF w D (h : Int) a s = true then 1 else 0)), (0, (max 0 (s 3 - (h : Int))))]) (S' := [(0, 0), (0, 3), (0, (h : Int) + 1), (2, 192)]) (t := 0) (e := w32 (((max 0 (s 3 - (h : Int)))) - 1)) (z := (max 0 (s 3 - (h : Int))) - 1) r_142_132 rfl rfl rfl (w32_eq (by omega) (by omega) (by omega)) ?_
          refine gx_st (L' := [(2, 192), (0, (h : Int)), (0, a), (0, (h : Int) + 1), (0, (if canF w D (h : Int) a s = true then 1 else 0)), (0, (max 0 (s 3 - (h : Int))))]) (S' := [(0, (max 0 ((max 0 (s 3 - (h : Int))) - 1))), (0, 3), (0, (h : Int) + 1), (2, 192)]) r_142_133 rfl rfl rfl ?_
          have pp_m4 : PinR m4 := by rw [e_m4, e_m2, e_m1]; exact PinR_up (PinR_up (PinR_up hp rfl) rfl) rfl
          refine gx_cv (nx := 139) (S2 := []) (l_132 hT pp_m4 (h := h + 1) (k := 3) (i := 16 * h + 19) (by omega) (by omega) ((max 0 ((max 0 (s 3 - (h : Int))) - 1)))) r_142_136 rfl rfl rfl rfl rfl (rcv_v rfl (ty_192 hT) (by decide) rfl (by decide)) rfl (by decide) rfl (fun n136_4 q136_4 => ?_)
          have e_n136_4 : n136_4 = nu_up m4 200 (16 * h + 19) ((max 0 ((max 0 (s 3 - (h : Int))) - 1))) := q136_4
          have rw_n136_4 : RowW nt n136_4 (h + 1) s := by
            rw [e_n136_4]
            refine ⟨fun q hq h3 => ?_, fun q hq => ?_, fun t ht hn => ?_⟩
            · rw [nu_ne (by omega)]; exact rw_m4.1 q hq h3
            · rw [nu_ne (by omega)]; exact rw_m4.2.1 q hq
            · rw [nu_ne (by omega)]; exact rw_m4.2.2 t ht hn
          show GX T 5 142 139 [(2, 192), (0, (h : Int)), (0, a), (0, (h : Int) + 1), (0, (if canF w D (h : Int) a s = true then 1 else 0)), (0, (max 0 (s 3 - (h : Int))))] [] n136_4 (RV (fun m1 => HourP nt m m1 h s (hourF w D (h : Int) a s).1 (hourF w D (h : Int) a s).2))
          refine gx_st (L' := [(2, 192), (0, (h : Int)), (0, a), (0, (h : Int) + 1), (0, (if canF w D (h : Int) a s = true then 1 else 0)), (0, (max 0 (s 3 - (h : Int))))]) (S' := [(0, (max 0 (s 3 - (h : Int))))]) r_142_139 rfl rfl rfl ?_
          refine gx_i0 (P := ¬ (max 0 (s 3 - (h : Int))) = 0) r_142_141 (rfl) (fun h141 => ?_) (fun h141 => ?_)
          · refine gx_st (L' := [(2, 192), (0, (h : Int)), (0, a), (0, (h : Int) + 1), (0, (if canF w D (h : Int) a s = true then 1 else 0)), (0, (max 0 (s 3 - (h : Int))))]) (S' := [(0, (if canF w D (h : Int) a s = true then 1 else 0))]) r_142_152 rfl rfl rfl ?_
            refine gx_i0 (P := ¬ (canF w D (h : Int) a s = true)) r_142_154 (b01_eq) (fun h154 => ?_) (fun h154 => ?_)
            · exact absurd h77 h154
            · have h154 := Decidable.not_not.mp h154
              refine gx_st (L' := [(2, 192), (0, (h : Int)), (0, a), (0, (h : Int) + 1), (0, (if canF w D (h : Int) a s = true then 1 else 0)), (0, (max 0 (s 3 - (h : Int))))]) (S' := [(0, a)]) r_142_157 rfl rfl rfl ?_
              refine gx_st (L' := [(2, 192), (0, (h : Int)), (0, a), (0, (h : Int) + 1), (0, (if canF w D (h : Int) a s = true then 1 else 0)), (0, (max 0 (s 3 - (h : Int))))]) (S' := [(0, 2), (0, a)]) r_142_158 rfl rfl rfl ?_
              refine gx_ic (P := ¬ a = 2) r_142_159 (rfl) (fun h159 => ?_) (fun h159 => ?_)
              · refine gx_st (L' := [(2, 192), (0, (h : Int)), (0, a), (0, (h : Int) + 1), (0, (if canF w D (h : Int) a s = true then 1 else 0)), (0, (max 0 (s 3 - (h : Int))))]) (S' := [(0, (if canF w D (h : Int) a s = true then 1 else 0))]) r_142_178 rfl rfl rfl ?_
                refine gx_i0 (P := ¬ (canF w D (h : Int) a s = true)) r_142_180 (b01_eq) (fun h180 => ?_) (fun h180 => ?_)
                · exact absurd h77 h180
                · have h180 := Decidable.not_not.mp h180
                  refine gx_st (L' := [(2, 192), (0, (h : Int)), (0, a), (0, (h : Int) + 1), (0, (if canF w D (h : Int) a s = true then 1 else 0)), (0, (max 0 (s 3 - (h : Int))))]) (S' := [(0, a)]) r_142_183 rfl rfl rfl ?_
                  refine gx_st (L' := [(2, 192), (0, (h : Int)), (0, a), (0, (h : Int) + 1), (0, (if canF w D (h : Int) a s = true then 1 else 0)), (0, (max 0 (s 3 - (h : Int))))]) (S' := [(0, 10), (0, a)]) r_142_184 rfl rfl rfl ?_
                  refine gx_ic (P := a < 10) r_142_186 (rfl) (fun h186 => ?_) (fun h186 => ?_)
                  · refine gx_st (L' := [(2, 192), (0, (h : Int)), (0, a), (0, (h : Int) + 1), (0, (if canF w D (h : Int) a s = true then 1 else 0)), (0, (max 0 (s 3 - (h : Int))))]) (S' := [(2, 192)]) r_142_201 rfl rfl rfl ?_
                    refine gx_gf (x := 201) 2 r_142_202 (rfl) (ty_192 hT) ⟨by decide, rfl, by decide, by decide⟩ rfl (fun _ => by omega) (by show n136_4 192 17 = _; rw [e_n136_4, nu_no (by decide), e_m4, nu_no (by decide), e_m2, nu_no (by decide), e_m1, nu_no (by decide)]; exact pin_at hp (t := 201) rfl (by decide)) ?_
                    refine gx_st (L' := [(2, 192), (0, (h : Int)), (0, a), (0, (h : Int) + 1), (0, (if canF w D (h : Int) a s = true then 1 else 0)), (0, (max 0 (s 3 - (h : Int))))]) (S' := [(0, (h : Int)), (2, 201)]) r_142_205 rfl rfl rfl ?_
                    refine gx_st (L' := [(2, 192), (0, (h : Int)), (0, a), (0, (h : Int) + 1), (0, (if canF w D (h : Int) a s = true then 1 else 0)), (0, (max 0 (s 3 - (h : Int))))]) (S' := [(0, 1), (0, (h : Int)), (2, 201)]) r_142_206 rfl rfl rfl ?_
                    obtain ⟨m5, e_m5⟩ : ∃ z, z = nu_up n136_4 201 h 1 := ⟨_, rfl⟩
                    have rw_m5 : RowW nt m5 (h + 1) s := roww_e rw_n136_4 (fun i _ _ => by rw [e_m5, nu_no (by decide)])
                    refine gx_is (n := h) (x := 1) r_142_207 (rfl) (by omega) (ty_201 hT) (by omega) ⟨rfl, by omega⟩ e_m5.symm ?_
                    have z3 : m5 200 (16 * h + 19) = (max 0 ((max 0 (s 3 - (h : Int))) - 1)) := by rw [e_m5, nu_no (by decide), e_n136_4, nu_at]
                    exact gx_rt r_142_208 rfl rfl ⟨rfl, by
                      rw [hour_go hb1 (can_no h82 h159 (by omega)), go_sl (by omega)]
                      exact hourp_st (s2 := s) (v := 1) (by decide) rfl rfl k22 rw_m5 (fun _ => by rw [z3]; omega) (by show m5 201 h = _; rw [e_m5, nu_at]) (by show m5 192 21 = _; rw [e_m5, nu_no (by decide), e_n136_4, nu_no (by decide), e_m4, nu_no (by decide), e_m2, nu_no (by decide), e_m1, nu_no (by decide)]) (by show m5 192 22 = _; rw [e_m5, nu_no (by decide), e_n136_4, nu_no (by decide), e_m4, nu_no (by decide), e_m2, nu_no (by decide), e_m1, nu_no (by decide)]) (fun c => by rw [e_m5, nu_x (by omega), e_n136_4, nu_x (by omega), e_m4, nu_x (by omega), e_m2, nu_x (by omega), e_m1, nu_x (by omega)]) (fun p i x1 x2 x3 x4 x5 => by rw [e_m5, nu_x (by omega), e_n136_4, nu_x (by omega), e_m4, nu_x (by omega), e_m2, nu_x (by omega), e_m1, nu_x (by omega)])⟩
                  · have b0 := hB.1
                    obtain ⟨g, hg, hgn⟩ := can_goal hB hD hps (by omega) ⟨by omega, ha.2⟩ h77
                    refine gx_st (L' := [(2, 192), (0, (h : Int)), (0, a), (0, (h : Int) + 1), (0, (if canF w D (h : Int) a s = true then 1 else 0)), (0, (max 0 (s 3 - (h : Int))))]) (S' := [(2, 192)]) r_142_189 rfl rfl rfl ?_
                    refine gx_st (L' := [(2, 192), (0, (h : Int)), (0, a), (0, (h : Int) + 1), (0, (if canF w D (h : Int) a s = true then 1 else 0)), (0, (max 0 (s 3 - (h : Int))))]) (S' := [(0, (h : Int)), (2, 192)]) r_142_190 rfl rfl rfl ?_
                    refine gx_st (L' := [(2, 192), (0, (h : Int)), (0, a), (0, (h : Int) + 1), (0, (if canF w D (h : Int) a s = true then 1 else 0)), (0, (max 0 (s 3 - (h : Int))))]) (S' := [(0, a), (0, (h : Int)), (2, 192)]) r_142_191 rfl rfl rfl ?_
                    refine gx_st (L' := [(2, 192), (0, (h : Int)), (0, a), (0, (h : Int) + 1), (0, (if canF w D (h : Int) a s = true then 1 else 0)), (0, (max 0 (s 3 - (h : Int))))]) (S' := [(0, 10), (0, a), (0, (h : Int)), (2, 192)]) r_142_192 rfl rfl rfl ?_
                    refine gx_ar (L' := [(2, 192), (0, (h : Int)), (0, a), (0, (h : Int) + 1), (0, (if canF w D (h : Int) a s = true then 1 else 0)), (0, (max 0 (s 3 - (h : Int))))]) (S' := [(0, (h : Int)), (2, 192)]) (t := 0) (e := w32 (a - 10)) (z := (g : Int)) r_142_194 rfl rfl rfl (w32_eq (by omega) (by omega) (by omega)) ?_
                    have ew_n136_4 : EW nt n136_4 w := ew_e hE (fun i => by rw [e_n136_4, nu_x (by omega), e_m4, nu_x (by omega), e_m2, nu_x (by omega), e_m1, nu_x (by omega)]) (fun i u1 u2 => by rw [e_n136_4, nu_x (by omega), e_m4, nu_x (by omega), e_m2, nu_x (by omega), e_m1, nu_x (by omega)])
                    have pp_n136_4 : PinR n136_4 := by rw [e_n136_4, e_m4, e_m2, e_m1]; exact PinR_up (PinR_up (PinR_up (PinR_up hp rfl) rfl) rfl) rfl
                    have z3_n136_4 : n136_4 200 (16 * h + 19) = max 0 (s 3 - ((h + 1 : Nat) : Int)) := by
                      rw [e_n136_4, nu_at]; omega
                    have r1_n136_4 : RowR nt n136_4 (h + 1) s := ⟨rw_n136_4, fun _ => by rw [show 16 * (h + 1) + 3 = 16 * h + 19 by omega]; exact z3_n136_4⟩
                    have q22_n136_4 : n136_4 192 22 = s 16 := by rw [e_n136_4, nu_x (by omega), e_m4, nu_x (by omega), e_m2, nu_x (by omega), e_m1, nu_x (by omega)]; exact k22
                    have q204_n136_4 : ∀ c : Nat, c < 5 → 0 ≤ n136_4 204 c ∧ n136_4 204 c ≤ 20 := fun c hc => by rw [e_n136_4, nu_x (by omega), e_m4, nu_x (by omega), e_m2, nu_x (by omega), e_m1, nu_x (by omega)]; exact k204 c hc
                    have tr_n136_4 : n136_4 192 21 = m 192 21 := by rw [e_n136_4, nu_x (by omega), e_m4, nu_x (by omega), e_m2, nu_x (by omega), e_m1, nu_x (by omega)]
                    have tc_n136_4 : ∀ c : Nat, n136_4 204 c = m 204 c := fun c => by rw [e_n136_4, nu_x (by omega), e_m4, nu_x (by omega), e_m2, nu_x (by omega), e_m1, nu_x (by omega)]
                    have tf_n136_4 : ∀ p i : Nat, ¬ (p = 200 ∧ 16 * h + 16 ≤ i ∧ i < 16 * h + 32) → ¬ (p = 201 ∧ i = h) → ¬ (p = 202 ∧ i = h) → ¬ p = 204 → ¬ (p = 192 ∧ (i = 21 ∨ i = 22)) → n136_4 p i = m p i := fun p i x1 x2 x3 x4 x5 => by rw [e_n136_4, nu_x (by omega), e_m4, nu_x (by omega), e_m2, nu_x (by omega), e_m1, nu_x (by omega)]
                    refine gx_cv (nx := 198) (S2 := []) (y_139 hT pp_n136_4 hB ew_n136_4 hh r1_n136_4 hb hb7 k2 k6 q22_n136_4 q204_n136_4 (t := g)) r_142_195 rfl rfl rfl rfl rfl (rcv_v rfl (ty_192 hT) (by decide) rfl (by decide)) rfl (by decide) rfl (fun n195_5 q195_5 => ?_)
                    have hqn195_5 := hourp_tr q195_5 tr_n136_4 tc_n136_4 tf_n136_4
                    show GX T 5 142 198 [(2, 192), (0, (h : Int)), (0, a), (0, (h : Int) + 1), (0, (if canF w D (h : Int) a s = true then 1 else 0)), (0, (max 0 (s 3 - (h : Int))))] [] n195_5 (RV (fun m1 => HourP nt m m1 h s (hourF w D (h : Int) a s).1 (hourF w D (h : Int) a s).2))
                    refine gx_st (L' := [(2, 192), (0, (h : Int)), (0, a), (0, (h : Int) + 1), (0, (if canF w D (h : Int) a s = true then 1 else 0)), (0, (max 0 (s 3 - (h : Int))))]) (S' := []) r_142_198 rfl rfl rfl ?_
                    exact gx_rt r_142_208 rfl rfl ⟨rfl, by rw [hour_ca hb1 h77 h159 (by omega), hg]; exact hqn195_5⟩
              · have h159 := Decidable.not_not.mp h159
                refine gx_st (L' := [(2, 192), (0, (h : Int)), (0, a), (0, (h : Int) + 1), (0, (if canF w D (h : Int) a s = true then 1 else 0)), (0, (max 0 (s 3 - (h : Int))))]) (S' := [(2, 192)]) r_142_162 rfl rfl rfl ?_
                refine gx_gf (x := 201) 2 r_142_163 (rfl) (ty_192 hT) ⟨by decide, rfl, by decide, by decide⟩ rfl (fun _ => by omega) (by show n136_4 192 17 = _; rw [e_n136_4, nu_no (by decide), e_m4, nu_no (by decide), e_m2, nu_no (by decide), e_m1, nu_no (by decide)]; exact pin_at hp (t := 201) rfl (by decide)) ?_
                refine gx_st (L' := [(2, 192), (0, (h : Int)), (0, a), (0, (h : Int) + 1), (0, (if canF w D (h : Int) a s = true then 1 else 0)), (0, (max 0 (s 3 - (h : Int))))]) (S' := [(0, (h : Int)), (2, 201)]) r_142_166 rfl rfl rfl ?_
                refine gx_st (L' := [(2, 192), (0, (h : Int)), (0, a), (0, (h : Int) + 1), (0, (if canF w D (h : Int) a s = true then 1 else 0)), (0, (max 0 (s 3 - (h : Int))))]) (S' := [(0, 5), (0, (h : Int)), (2, 201)]) r_142_167 rfl rfl rfl ?_
                obtain ⟨m5, e_m5⟩ : ∃ z, z = nu_up n136_4 201 h 5 := ⟨_, rfl⟩
                have rw_m5 : RowW nt m5 (h + 1) s := roww_e rw_n136_4 (fun i _ _ => by rw [e_m5, nu_no (by decide)])
                refine gx_is (n := h) (x := 5) r_142_168 (rfl) (by omega) (ty_201 hT) (by omega) ⟨rfl, by omega⟩ e_m5.symm ?_
                refine gx_st (L' := [(2, 192), (0, (h : Int)), (0, a), (0, (h : Int) + 1), (0, (if canF w D (h : Int) a s = true then 1 else 0)), (0, (max 0 (s 3 - (h : Int))))]) (S' := [(2, 192)]) r_142_169 rfl rfl rfl ?_
                refine gx_st (L' := [(2, 192), (0, (h : Int)), (0, a), (0, (h : Int) + 1), (0, (if canF w D (h : Int) a s = true then 1 else 0)), (0, (max 0 (s 3 - (h : Int))))]) (S' := [(0, (h : Int)), (2, 192)]) r_142_170 rfl rfl rfl ?_
                refine gx_st (L' := [(2, 192), (0, (h : Int)), (0, a), (0, (h : Int) + 1), (0, (if canF w D (h : Int) a s = true then 1 else 0)), (0, (max 0 (s 3 - (h : Int))))]) (S' := [(0, 1), (0, (h : Int)), (2, 192)]) r_142_171 rfl rfl rfl ?_
                have pp_m5 : PinR m5 := by rw [e_m5, e_n136_4, e_m4, e_m2, e_m1]; exact PinR_up (PinR_up (PinR_up (PinR_up (PinR_up hp rfl) rfl) rfl) rfl) rfl
                refine gx_cv (nx := 175) (S2 := []) (y_140 hT pp_m5 (h := h) (by omega) 1) r_142_172 rfl rfl rfl rfl rfl (rcv_v rfl (ty_192 hT) (by decide) rfl (by decide)) rfl (by decide) rfl (fun n172_5 q172_5 => ?_)
                obtain ⟨o1_n172_5, e_o1_n172_5⟩ : ∃ z, z = nu_up m5 192 21 (h : Int) := ⟨_, rfl⟩
                obtain ⟨o2_n172_5, e_o2_n172_5⟩ : ∃ z, z = nu_up o1_n172_5 192 22 1 := ⟨_, rfl⟩
                obtain ⟨o3_n172_5, e_o3_n172_5⟩ : ∃ z, z = nu_up o2_n172_5 200 (16 * h + 16) (-1) := ⟨_, rfl⟩
                have e_n172_5 : n172_5 = nu_up o3_n172_5 200 (16 * h + 17) (-1) := by rw [q172_5, e_o3_n172_5, e_o2_n172_5, e_o1_n172_5]
                have rw_o1_n172_5 : RowW nt o1_n172_5 (h + 1) s := roww_e rw_m5 (fun i _ _ => by rw [e_o1_n172_5, nu_no (by decide)])
                have rw_o2_n172_5 : RowW nt o2_n172_5 (h + 1) s := roww_e rw_o1_n172_5 (fun i _ _ => by rw [e_o2_n172_5, nu_no (by decide)])
                have rw_o3_n172_5 : RowW nt o3_n172_5 (h + 1) (upw s 0 (-1)) := by rw [e_o3_n172_5]; exact roww_f rw_o2_n172_5 (k := 0) (by decide) (by omega)
                have rw_n172_5 : RowW nt n172_5 (h + 1) (upw (upw s 0 (-1)) 1 (-1)) := by rw [e_n172_5]; exact roww_f rw_o3_n172_5 (k := 1) (by decide) (by omega)
                show GX T 5 142 175 [(2, 192), (0, (h : Int)), (0, a), (0, (h : Int) + 1), (0, (if canF w D (h : Int) a s = true then 1 else 0)), (0, (max 0 (s 3 - (h : Int))))] [] n172_5 (RV (fun m1 => HourP nt m m1 h s (hourF w D (h : Int) a s).1 (hourF w D (h : Int) a s).2))
                refine gx_st (L' := [(2, 192), (0, (h : Int)), (0, a), (0, (h : Int) + 1), (0, (if canF w D (h : Int) a s = true then 1 else 0)), (0, (max 0 (s 3 - (h : Int))))]) (S' := []) r_142_175 rfl rfl rfl ?_
                exact gx_rt r_142_208 rfl rfl ⟨rfl, by rw [hour_th hb1 h77 h159]; exact hourp_th hb1 rw_n172_5 (by show n172_5 201 h = _; rw [e_n172_5, nu_no (by decide), e_o3_n172_5, nu_no (by decide), e_o2_n172_5, nu_no (by decide), e_o1_n172_5, nu_no (by decide), e_m5, nu_at]) (by show n172_5 192 21 = _; rw [e_n172_5, nu_no (by decide), e_o3_n172_5, nu_no (by decide), e_o2_n172_5, nu_ne (by decide), e_o1_n172_5, nu_at]) (by show n172_5 192 22 = _; rw [e_n172_5, nu_no (by decide), e_o3_n172_5, nu_no (by decide), e_o2_n172_5, nu_at]) (fun c => by rw [e_n172_5, nu_x (by omega), e_o3_n172_5, nu_x (by omega), e_o2_n172_5, nu_x (by omega), e_o1_n172_5, nu_x (by omega), e_m5, nu_x (by omega), e_n136_4, nu_x (by omega), e_m4, nu_x (by omega), e_m2, nu_x (by omega), e_m1, nu_x (by omega)]) (fun p i x1 x2 x3 x4 x5 => by rw [e_n172_5, nu_x (by omega), e_o3_n172_5, nu_x (by omega), e_o2_n172_5, nu_x (by omega), e_o1_n172_5, nu_x (by omega), e_m5, nu_x (by omega), e_n136_4, nu_x (by omega), e_m4, nu_x (by omega), e_m2, nu_x (by omega), e_m1, nu_x (by omega)])⟩
          · have h141 := Decidable.not_not.mp h141
            omega
      · have h82 := Decidable.not_not.mp h82
        refine gx_st (L' := [(2, 192), (0, (h : Int)), (0, a), (0, (h : Int) + 1), (0, (if canF w D (h : Int) a s = true then 1 else 0)), (0, (max 0 (s 3 - (h : Int))))]) (S' := [(2, 192)]) r_142_85 rfl rfl rfl ?_
        refine gx_st (L' := [(2, 192), (0, (h : Int)), (0, a), (0, (h : Int) + 1), (0, (if canF w D (h : Int) a s = true then 1 else 0)), (0, (max 0 (s 3 - (h : Int))))]) (S' := [(0, (h : Int) + 1), (2, 192)]) r_142_86 rfl rfl rfl ?_
        refine gx_st (L' := [(2, 192), (0, (h : Int)), (0, a), (0, (h : Int) + 1), (0, (if canF w D (h : Int) a s = true then 1 else 0)), (0, (max 0 (s 3 - (h : Int))))]) (S' := [(0, 4), (0, (h : Int) + 1), (2, 192)]) r_142_87 rfl rfl rfl ?_
        refine gx_st (L' := [(2, 192), (0, (h : Int)), (0, a), (0, (h : Int) + 1), (0, (if canF w D (h : Int) a s = true then 1 else 0)), (0, (max 0 (s 3 - (h : Int))))]) (S' := [(2, 192), (0, 4), (0, (h : Int) + 1), (2, 192)]) r_142_88 rfl rfl rfl ?_
        refine gx_st (L' := [(2, 192), (0, (h : Int)), (0, a), (0, (h : Int) + 1), (0, (if canF w D (h : Int) a s = true then 1 else 0)), (0, (max 0 (s 3 - (h : Int))))]) (S' := [(0, (h : Int) + 1), (2, 192), (0, 4), (0, (h : Int) + 1), (2, 192)]) r_142_89 rfl rfl rfl ?_
        refine gx_st (L' := [(2, 192), (0, (h : Int)), (0, a), (0, (h : Int) + 1), (0, (if canF w D (h : Int) a s = true then 1 else 0)), (0, (max 0 (s 3 - (h : Int))))]) (S' := [(0, 4), (0, (h : Int) + 1), (2, 192), (0, 4), (0, (h : Int) + 1), (2, 192)]) r_142_90 rfl rfl rfl ?_
        have pp_m2 : PinR m2 := by rw [e_m2, e_m1]; exact PinR_up (PinR_up hp rfl) rfl
        have c91_3 : m2 200 (16 * h + 20) = (s 4) := by show m2 200 (16 * h + 20) = _; rw [e_m2, nu_no (by decide), e_m1, nu_no (by decide)]; exact (by rw [show 16 * h + 20 = 16 * (h + 1) + 4 by omega]; exact rw1.1 4 (by decide) (by decide))
        refine gx_ci (nx := 94) (S2 := [(0, 4), (0, (h : Int) + 1), (2, 192)]) (l_131 hT pp_m2 (h := h + 1) (k := 4) (i := 16 * h + 20) (by omega) (by omega)) r_142_91 rfl rfl rfl rfl rfl (rcv_v rfl (ty_192 hT) (by decide) rfl (by decide)) rfl (by decide) rfl (fun x91_3 n91_3 q91_3 => ?_)
        obtain ⟨e_x91_3, z_x91_3⟩ := q91_3
        have y_x91_3 := z_x91_3.symm
        subst y_x91_3
        rw [e_x91_3, c91_3]
        show GX T 5 142 94 [(2, 192), (0, (h : Int)), (0, a), (0, (h : Int) + 1), (0, (if canF w D (h : Int) a s = true then 1 else 0)), (0, (max 0 (s 3 - (h : Int))))] [(0, (s 4)), (0, 4), (0, (h : Int) + 1), (2, 192)] m2 (RV (fun m1 => HourP nt m m1 h s (hourF w D (h : Int) a s).1 (hourF w D (h : Int) a s).2))
        refine gx_st (L' := [(2, 192), (0, (h : Int)), (0, a), (0, (h : Int) + 1), (0, (if canF w D (h : Int) a s = true then 1 else 0)), (0, (max 0 (s 3 - (h : Int))))]) (S' := [(0, 1), (0, (s 4)), (0, 4), (0, (h : Int) + 1), (2, 192)]) r_142_94 rfl rfl rfl ?_
        refine gx_st (L' := [(2, 192), (0, (h : Int)), (0, a), (0, (h : Int) + 1), (0, (if canF w D (h : Int) a s = true then 1 else 0)), (0, (max 0 (s 3 - (h : Int))))]) (S' := [(2, 192), (0, 1), (0, (s 4)), (0, 4), (0, (h : Int) + 1), (2, 192)]) r_142_95 rfl rfl rfl ?_
        refine gx_st (L' := [(2, 192), (0, (h : Int)), (0, a), (0, (h : Int) + 1), (0, (if canF w D (h : Int) a s = true then 1 else 0)), (0, (max 0 (s 3 - (h : Int))))]) (S' := [(0, (h : Int)), (2, 192), (0, 1), (0, (s 4)), (0, 4), (0, (h : Int) + 1), (2, 192)]) r_142_96 rfl rfl rfl ?_
        refine gx_st (L' := [(2, 192), (0, (h : Int)), (0, a), (0, (h : Int) + 1), (0, (if canF w D (h : Int) a s = true then 1 else 0)), (0, (max 0 (s 3 - (h : Int))))]) (S' := [(0, (h : Int)), (0, (h : Int)), (2, 192), (0, 1), (0, (s 4)), (0, 4), (0, (h : Int) + 1), (2, 192)]) r_142_97 rfl rfl rfl ?_
        have ew_m2 : EW nt m2 w := ew_e hE (fun i => by rw [e_m2, nu_x (by omega), e_m1, nu_x (by omega)]) (fun i u1 u2 => by rw [e_m2, nu_x (by omega), e_m1, nu_x (by omega)])
        have pp_m2 : PinR m2 := by rw [e_m2, e_m1]; exact PinR_up (PinR_up hp rfl) rfl
        have r0_m2 : RowR nt m2 h s := row_e hr0 (fun i u1 u2 => by rw [e_m2, nu_x (by omega), e_m1, nu_x (by omega)])
        refine gx_ci (nx := 101) (S2 := [(0, 1), (0, (s 4)), (0, 4), (0, (h : Int) + 1), (2, 192)]) (y_136 hT pp_m2 hB ew_m2 (h := h) (by omega) r0_m2 (hr2 := (h : Int)) (by omega)) r_142_98 rfl rfl rfl rfl rfl (rcv_v rfl (ty_192 hT) (by decide) rfl (by decide)) rfl (by decide) rfl (fun x98_4 n98_4 q98_4 => ?_)
        obtain ⟨e_x98_4, z_x98_4⟩ := q98_4
        have y_x98_4 := z_x98_4.symm
        subst y_x98_4
        rw [e_x98_4]
        show GX T 5 142 101 [(2, 192), (0, (h : Int)), (0, a), (0, (h : Int) + 1), (0, (if canF w D (h : Int) a s = true then 1 else 0)), (0, (max 0 (s 3 - (h : Int))))] [(0, (vineF w (s 0) (h : Int) (s 4))), (0, 1), (0, (s 4)), (0, 4), (0, (h : Int) + 1), (2, 192)] m2 (RV (fun m1 => HourP nt m m1 h s (hourF w D (h : Int) a s).1 (hourF w D (h : Int) a s).2))
        refine gx_st (L' := [(2, 192), (0, (h : Int)), (0, a), (0, (h : Int) + 1), (0, (if canF w D (h : Int) a s = true then 1 else 0)), (0, (max 0 (s 3 - (h : Int))))]) (S' := [(0, (ishl 1 ((vineF w (s 0) (h : Int) (s 4))))), (0, (s 4)), (0, 4), (0, (h : Int) + 1), (2, 192)]) r_142_101 rfl rfl rfl ?_
        refine gx_st (L' := [(2, 192), (0, (h : Int)), (0, a), (0, (h : Int) + 1), (0, (if canF w D (h : Int) a s = true then 1 else 0)), (0, (max 0 (s 3 - (h : Int))))]) (S' := [(0, (ior (s 4) ((ishl 1 ((vineF w (s 0) (h : Int) (s 4))))))), (0, 4), (0, (h : Int) + 1), (2, 192)]) r_142_102 rfl rfl rfl ?_
        have pp_m2 : PinR m2 := by rw [e_m2, e_m1]; exact PinR_up (PinR_up hp rfl) rfl
        refine gx_cv (nx := 106) (S2 := []) (l_132 hT pp_m2 (h := h + 1) (k := 4) (i := 16 * h + 20) (by omega) (by omega) ((ior (s 4) ((ishl 1 ((vineF w (s 0) (h : Int) (s 4)))))))) r_142_103 rfl rfl rfl rfl rfl (rcv_v rfl (ty_192 hT) (by decide) rfl (by decide)) rfl (by decide) rfl (fun n103_5 q103_5 => ?_)
        have e_n103_5 : n103_5 = nu_up m2 200 (16 * h + 20) ((ior (s 4) ((ishl 1 ((vineF w (s 0) (h : Int) (s 4))))))) := q103_5
        have rw_n103_5 : RowW nt n103_5 (h + 1) (upw s 4 ((ior (s 4) ((ishl 1 ((vineF w (s 0) (h : Int) (s 4)))))))) := by rw [e_n103_5]; exact roww_f rw_m2 (k := 4) (by decide) (by omega)
        show GX T 5 142 106 [(2, 192), (0, (h : Int)), (0, a), (0, (h : Int) + 1), (0, (if canF w D (h : Int) a s = true then 1 else 0)), (0, (max 0 (s 3 - (h : Int))))] [] n103_5 (RV (fun m1 => HourP nt m m1 h s (hourF w D (h : Int) a s).1 (hourF w D (h : Int) a s).2))
        refine gx_st (L' := [(2, 192), (0, (h : Int)), (0, a), (0, (h : Int) + 1), (0, (if canF w D (h : Int) a s = true then 1 else 0)), (0, (max 0 (s 3 - (h : Int))))]) (S' := [(0, 3)]) r_142_106 rfl rfl rfl ?_
        refine gx_st (L' := [(2, 192), (0, (h : Int)), (0, a), (0, (h : Int) + 1), (0, (if canF w D (h : Int) a s = true then 1 else 0)), (0, 3)]) (S' := []) r_142_107 rfl rfl rfl ?_
        refine gx_st (L' := [(2, 192), (0, (h : Int)), (0, a), (0, (h : Int) + 1), (0, (if canF w D (h : Int) a s = true then 1 else 0)), (0, 3)]) (S' := [(2, 192)]) r_142_109 rfl rfl rfl ?_
        refine gx_gf (x := 202) 2 r_142_110 (rfl) (ty_192 hT) ⟨by decide, rfl, by decide, by decide⟩ rfl (fun _ => by omega) (by show n103_5 192 18 = _; rw [e_n103_5, nu_no (by decide), e_m2, nu_no (by decide), e_m1, nu_no (by decide)]; exact pin_at hp (t := 202) rfl (by decide)) ?_
        refine gx_st (L' := [(2, 192), (0, (h : Int)), (0, a), (0, (h : Int) + 1), (0, (if canF w D (h : Int) a s = true then 1 else 0)), (0, 3)]) (S' := [(0, (h : Int)), (2, 202)]) r_142_113 rfl rfl rfl ?_
        refine gx_st (L' := [(2, 192), (0, (h : Int)), (0, a), (0, (h : Int) + 1), (0, (if canF w D (h : Int) a s = true then 1 else 0)), (0, 3)]) (S' := [(0, 3), (0, (h : Int)), (2, 202)]) r_142_114 rfl rfl rfl ?_
        refine gx_i0 (P := 3 ≤ 0) r_142_116 (rfl) (fun h116 => ?_) (fun h116 => ?_)
        · omega
        · refine gx_st (L' := [(2, 192), (0, (h : Int)), (0, a), (0, (h : Int) + 1), (0, (if canF w D (h : Int) a s = true then 1 else 0)), (0, 3)]) (S' := [(0, 1), (0, (h : Int)), (2, 202)]) r_142_119 rfl rfl rfl ?_
          refine gx_st (L' := [(2, 192), (0, (h : Int)), (0, a), (0, (h : Int) + 1), (0, (if canF w D (h : Int) a s = true then 1 else 0)), (0, 3)]) (S' := [(0, 1), (0, (h : Int)), (2, 202)]) r_142_120 rfl rfl rfl ?_
          obtain ⟨m3, e_m3⟩ : ∃ z, z = nu_up n103_5 202 h 1 := ⟨_, rfl⟩
          have rw_m3 : RowW nt m3 (h + 1) (upw s 4 ((ior (s 4) ((ishl 1 ((vineF w (s 0) (h : Int) (s 4)))))))) := roww_e rw_n103_5 (fun i _ _ => by rw [e_m3, nu_no (by decide)])
          refine gx_is (n := h) (x := 1) r_142_124 (rfl) (by omega) (ty_202 hT) (by omega) ⟨rfl, by omega⟩ e_m3.symm ?_
          refine gx_st (L' := [(2, 192), (0, (h : Int)), (0, a), (0, (h : Int) + 1), (0, (if canF w D (h : Int) a s = true then 1 else 0)), (0, 3)]) (S' := [(2, 192)]) r_142_125 rfl rfl rfl ?_
          refine gx_st (L' := [(2, 192), (0, (h : Int)), (0, a), (0, (h : Int) + 1), (0, (if canF w D (h : Int) a s = true then 1 else 0)), (0, 3)]) (S' := [(0, (h : Int) + 1), (2, 192)]) r_142_126 rfl rfl rfl ?_
          refine gx_st (L' := [(2, 192), (0, (h : Int)), (0, a), (0, (h : Int) + 1), (0, (if canF w D (h : Int) a s = true then 1 else 0)), (0, 3)]) (S' := [(0, 3), (0, (h : Int) + 1), (2, 192)]) r_142_127 rfl rfl rfl ?_
          refine gx_st (L' := [(2, 192), (0, (h : Int)), (0, a), (0, (h : Int) + 1), (0, (if canF w D (h : Int) a s = true then 1 else 0)), (0, 3)]) (S' := [(0, 0), (0, 3), (0, (h : Int) + 1), (2, 192)]) r_142_128 rfl rfl rfl ?_
          refine gx_st (L' := [(2, 192), (0, (h : Int)), (0, a), (0, (h : Int) + 1), (0, (if canF w D (h : Int) a s = true then 1 else 0)), (0, 3)]) (S' := [(0, 3), (0, 0), (0, 3), (0, (h : Int) + 1), (2, 192)]) r_142_129 rfl rfl rfl ?_
          refine gx_st (L' := [(2, 192), (0, (h : Int)), (0, a), (0, (h : Int) + 1), (0, (if canF w D (h : Int) a s = true then 1 else 0)), (0, 3)]) (S' := [(0, 1), (0, 3), (0, 0), (0, 3), (0, (h : Int) + 1), (2, 192)]) r_142_131 rfl rfl rfl ?_
          refine gx_ar (L' := [(2, 192), (0, (h : Int)), (0, a), (0, (h : Int) + 1), (0, (if canF w D (h : Int) a s = true then 1 else 0)), (0, 3)]) (S' := [(0, 0), (0, 3), (0, (h : Int) + 1), (2, 192)]) (t := 0) (e := w32 (3 - 1)) (z := 2) r_142_132 rfl rfl rfl (w32_eq (by omega) (by omega) (by omega)) ?_
          refine gx_st (L' := [(2, 192), (0, (h : Int)), (0, a), (0, (h : Int) + 1), (0, (if canF w D (h : Int) a s = true then 1 else 0)), (0, 3)]) (S' := [(0, (max 0 2)), (0, 3), (0, (h : Int) + 1), (2, 192)]) r_142_133 rfl rfl rfl ?_
          have pp_m3 : PinR m3 := by rw [e_m3, e_n103_5, e_m2, e_m1]; exact PinR_up (PinR_up (PinR_up (PinR_up hp rfl) rfl) rfl) rfl
          refine gx_cv (nx := 139) (S2 := []) (l_132 hT pp_m3 (h := h + 1) (k := 3) (i := 16 * h + 19) (by omega) (by omega) (max 0 2)) r_142_136 rfl rfl rfl rfl rfl (rcv_v rfl (ty_192 hT) (by decide) rfl (by decide)) rfl (by decide) rfl (fun n136_6 q136_6 => ?_)
          have e_n136_6 : n136_6 = nu_up m3 200 (16 * h + 19) (max 0 2) := q136_6
          have rw_n136_6 : RowW nt n136_6 (h + 1) (upw s 4 ((ior (s 4) ((ishl 1 ((vineF w (s 0) (h : Int) (s 4)))))))) := by
            rw [e_n136_6]
            refine ⟨fun q hq h3 => ?_, fun q hq => ?_, fun t ht hn => ?_⟩
            · rw [nu_ne (by omega)]; exact rw_m3.1 q hq h3
            · rw [nu_ne (by omega)]; exact rw_m3.2.1 q hq
            · rw [nu_ne (by omega)]; exact rw_m3.2.2 t ht hn
          show GX T 5 142 139 [(2, 192), (0, (h : Int)), (0, a), (0, (h : Int) + 1), (0, (if canF w D (h : Int) a s = true then 1 else 0)), (0, 3)] [] n136_6 (RV (fun m1 => HourP nt m m1 h s (hourF w D (h : Int) a s).1 (hourF w D (h : Int) a s).2))
          refine gx_st (L' := [(2, 192), (0, (h : Int)), (0, a), (0, (h : Int) + 1), (0, (if canF w D (h : Int) a s = true then 1 else 0)), (0, 3)]) (S' := [(0, 3)]) r_142_139 rfl rfl rfl ?_
          refine gx_i0 (P := ¬ 3 = 0) r_142_141 (rfl) (fun h141 => ?_) (fun h141 => ?_)
          · refine gx_st (L' := [(2, 192), (0, (h : Int)), (0, a), (0, (h : Int) + 1), (0, (if canF w D (h : Int) a s = true then 1 else 0)), (0, 3)]) (S' := [(0, (if canF w D (h : Int) a s = true then 1 else 0))]) r_142_152 rfl rfl rfl ?_
            refine gx_i0 (P := ¬ (canF w D (h : Int) a s = true)) r_142_154 (b01_eq) (fun h154 => ?_) (fun h154 => ?_)
            · exact absurd h77 h154
            · have h154 := Decidable.not_not.mp h154
              refine gx_st (L' := [(2, 192), (0, (h : Int)), (0, a), (0, (h : Int) + 1), (0, (if canF w D (h : Int) a s = true then 1 else 0)), (0, 3)]) (S' := [(0, a)]) r_142_157 rfl rfl rfl ?_
              refine gx_st (L' := [(2, 192), (0, (h : Int)), (0, a), (0, (h : Int) + 1), (0, (if canF w D (h : Int) a s = true then 1 else 0)), (0, 3)]) (S' := [(0, 2), (0, a)]) r_142_158 rfl rfl rfl ?_
              refine gx_ic (P := ¬ a = 2) r_142_159 (rfl) (fun h159 => ?_) (fun h159 => ?_)
              · refine gx_st (L' := [(2, 192), (0, (h : Int)), (0, a), (0, (h : Int) + 1), (0, (if canF w D (h : Int) a s = true then 1 else 0)), (0, 3)]) (S' := [(0, (if canF w D (h : Int) a s = true then 1 else 0))]) r_142_178 rfl rfl rfl ?_
                refine gx_i0 (P := ¬ (canF w D (h : Int) a s = true)) r_142_180 (b01_eq) (fun h180 => ?_) (fun h180 => ?_)
                · exact absurd h77 h180
                · have h180 := Decidable.not_not.mp h180
                  refine gx_st (L' := [(2, 192), (0, (h : Int)), (0, a), (0, (h : Int) + 1), (0, (if canF w D (h : Int) a s = true then 1 else 0)), (0, 3)]) (S' := [(0, a)]) r_142_183 rfl rfl rfl ?_
                  refine gx_st (L' := [(2, 192), (0, (h : Int)), (0, a), (0, (h : Int) + 1), (0, (if canF w D (h : Int) a s = true then 1 else 0)), (0, 3)]) (S' := [(0, 10), (0, a)]) r_142_184 rfl rfl rfl ?_
                  refine gx_ic (P := a < 10) r_142_186 (rfl) (fun h186 => ?_) (fun h186 => ?_)
                  · refine gx_st (L' := [(2, 192), (0, (h : Int)), (0, a), (0, (h : Int) + 1), (0, (if canF w D (h : Int) a s = true then 1 else 0)), (0, 3)]) (S' := [(2, 192)]) r_142_201 rfl rfl rfl ?_
                    refine gx_gf (x := 201) 2 r_142_202 (rfl) (ty_192 hT) ⟨by decide, rfl, by decide, by decide⟩ rfl (fun _ => by omega) (by show n136_6 192 17 = _; rw [e_n136_6, nu_no (by decide), e_m3, nu_no (by decide), e_n103_5, nu_no (by decide), e_m2, nu_no (by decide), e_m1, nu_no (by decide)]; exact pin_at hp (t := 201) rfl (by decide)) ?_
                    refine gx_st (L' := [(2, 192), (0, (h : Int)), (0, a), (0, (h : Int) + 1), (0, (if canF w D (h : Int) a s = true then 1 else 0)), (0, 3)]) (S' := [(0, (h : Int)), (2, 201)]) r_142_205 rfl rfl rfl ?_
                    refine gx_st (L' := [(2, 192), (0, (h : Int)), (0, a), (0, (h : Int) + 1), (0, (if canF w D (h : Int) a s = true then 1 else 0)), (0, 3)]) (S' := [(0, 1), (0, (h : Int)), (2, 201)]) r_142_206 rfl rfl rfl ?_
                    obtain ⟨m4, e_m4⟩ : ∃ z, z = nu_up n136_6 201 h 1 := ⟨_, rfl⟩
                    have rw_m4 : RowW nt m4 (h + 1) (upw s 4 ((ior (s 4) ((ishl 1 ((vineF w (s 0) (h : Int) (s 4)))))))) := roww_e rw_n136_6 (fun i _ _ => by rw [e_m4, nu_no (by decide)])
                    refine gx_is (n := h) (x := 1) r_142_207 (rfl) (by omega) (ty_201 hT) (by omega) ⟨rfl, by omega⟩ e_m4.symm ?_
                    have z3 : m4 200 (16 * h + 19) = (max 0 2) := by rw [e_m4, nu_no (by decide), e_n136_6, nu_at]
                    have ho := can_sob h77 h82
                    exact gx_rt r_142_208 rfl rfl ⟨rfl, by
                      rw [hour_of hb1 h77 h82, go_sl (show (h : Int) < offF w (h : Int) s 3 by unfold offF; rw [upw_at]; omega)]
                      refine hourp_st (s2 := offF w (h : Int) s) (v := 1) (by decide) (by unfold offF; rw [upw_ne (by decide), upw_ne (by decide)]) (by unfold offF; rw [upw_ne (by decide), upw_ne (by decide)]) k22 (roww_c rw_m4 (fun j hj j3 => by unfold offF; rw [upw_ne j3])) (fun _ => ?_) (by show m4 201 h = _; rw [e_m4, nu_at]) (by show m4 192 21 = _; rw [e_m4, nu_no (by decide), e_n136_6, nu_no (by decide), e_m3, nu_no (by decide), e_n103_5, nu_no (by decide), e_m2, nu_no (by decide), e_m1, nu_no (by decide)]) (by show m4 192 22 = _; rw [e_m4, nu_no (by decide), e_n136_6, nu_no (by decide), e_m3, nu_no (by decide), e_n103_5, nu_no (by decide), e_m2, nu_no (by decide), e_m1, nu_no (by decide)]) (fun c => by rw [e_m4, nu_x (by omega), e_n136_6, nu_x (by omega), e_m3, nu_x (by omega), e_n103_5, nu_x (by omega), e_m2, nu_x (by omega), e_m1, nu_x (by omega)]) (fun p i x1 x2 x3 x4 x5 => by rw [e_m4, nu_x (by omega), e_n136_6, nu_x (by omega), e_m3, nu_x (by omega), e_n103_5, nu_x (by omega), e_m2, nu_x (by omega), e_m1, nu_x (by omega)])
                      rw [z3]; unfold offF; rw [upw_at]; omega⟩
                  · omega
              · have h159 := Decidable.not_not.mp h159
                omega
          · have h141 := Decidable.not_not.mp h141
            omega
  · have h63 := Decidable.not_not.mp h63
    exact absurd h63 (by omega)
theorem n_142 (hT : TT T) (hp : PinR m) {w : Wd} (hB : WB w) {nt : Int} (hE : EW nt m w) (hP : WP w) {D : Nat → Nat → Int} (eD : ∀ a b : Nat, a < 7 → b < 7 → m 199 (7 * a + b) = D a b) (hD : WyD w D) {h : Nat} (hh : h < 12) {s : Wd} (hr0 : RowR nt m h s) (rw1 : RowW nt m (h + 1) s) (k22 : m 192 22 = s 16) (hb0 : s 1 = -1) {a : Int} : GX T 5 142 42 [(2, 192), (0, (h : Int)), (0, a), (0, (h : Int) + 1), (0, (if canF w D (h : Int) a s = true then 1 else 0)), (0, 16)] [] m (RV (fun m1 => HourP nt m m1 h s (hourF w D (h : Int) a s).1 (hourF w D (h : Int) a s).2)) := by
  refine gx_st (L' := [(2, 192), (0, (h : Int)), (0, a), (0, (h : Int) + 1), (0, (if canF w D (h : Int) a s = true then 1 else 0)), (0, 16)]) (S' := [(2, 192)]) r_142_42 rfl rfl rfl ?_
  refine gx_gf (x := 201) 2 r_142_43 (rfl) (ty_192 hT) ⟨by decide, rfl, by decide, by decide⟩ rfl (fun _ => by omega) (pin_at hp (t := 201) rfl (by decide)) ?_
  refine gx_st (L' := [(2, 192), (0, (h : Int)), (0, a), (0, (h : Int) + 1), (0, (if canF w D (h : Int) a s = true then 1 else 0)), (0, 16)]) (S' := [(0, (h : Int)), (2, 201)]) r_142_46 rfl rfl rfl ?_
  refine gx_st (L' := [(2, 192), (0, (h : Int)), (0, a), (0, (h : Int) + 1), (0, (if canF w D (h : Int) a s = true then 1 else 0)), (0, 16)]) (S' := [(0, 0), (0, (h : Int)), (2, 201)]) r_142_47 rfl rfl rfl ?_
  obtain ⟨m1, e_m1⟩ : ∃ z, z = nu_up m 201 h 0 := ⟨_, rfl⟩
  have rw_m1 : RowW nt m1 (h + 1) s := roww_e rw1 (fun i _ _ => by rw [e_m1, nu_no (by decide)])
  refine gx_is (n := h) (x := 0) r_142_48 (rfl) (by omega) (ty_201 hT) (by omega) ⟨rfl, by omega⟩ e_m1.symm ?_
  refine gx_st (L' := [(2, 192), (0, (h : Int)), (0, a), (0, (h : Int) + 1), (0, (if canF w D (h : Int) a s = true then 1 else 0)), (0, 16)]) (S' := [(2, 192)]) r_142_49 rfl rfl rfl ?_
  refine gx_gf (x := 202) 2 r_142_50 (rfl) (ty_192 hT) ⟨by decide, rfl, by decide, by decide⟩ rfl (fun _ => by omega) (by show m1 192 18 = _; rw [e_m1, nu_no (by decide)]; exact pin_at hp (t := 202) rfl (by decide)) ?_
  refine gx_st (L' := [(2, 192), (0, (h : Int)), (0, a), (0, (h : Int) + 1), (0, (if canF w D (h : Int) a s = true then 1 else 0)), (0, 16)]) (S' := [(0, (h : Int)), (2, 202)]) r_142_53 rfl rfl rfl ?_
  refine gx_st (L' := [(2, 192), (0, (h : Int)), (0, a), (0, (h : Int) + 1), (0, (if canF w D (h : Int) a s = true then 1 else 0)), (0, 16)]) (S' := [(0, 0), (0, (h : Int)), (2, 202)]) r_142_54 rfl rfl rfl ?_
  obtain ⟨m2, e_m2⟩ : ∃ z, z = nu_up m1 202 h 0 := ⟨_, rfl⟩
  have rw_m2 : RowW nt m2 (h + 1) s := roww_e rw_m1 (fun i _ _ => by rw [e_m2, nu_no (by decide)])
  refine gx_is (n := h) (x := 0) r_142_55 (rfl) (by omega) (ty_202 hT) (by omega) ⟨rfl, by omega⟩ e_m2.symm ?_
  refine gx_st (L' := [(2, 192), (0, (h : Int)), (0, a), (0, (h : Int) + 1), (0, (if canF w D (h : Int) a s = true then 1 else 0)), (0, 16)]) (S' := [(2, 192)]) r_142_56 rfl rfl rfl ?_
  refine gx_st (L' := [(2, 192), (0, (h : Int)), (0, a), (0, (h : Int) + 1), (0, (if canF w D (h : Int) a s = true then 1 else 0)), (0, 16)]) (S' := [(0, (h : Int)), (2, 192)]) r_142_57 rfl rfl rfl ?_
  refine gx_st (L' := [(2, 192), (0, (h : Int)), (0, a), (0, (h : Int) + 1), (0, (if canF w D (h : Int) a s = true then 1 else 0)), (0, 16)]) (S' := [(0, 1), (0, (h : Int)), (2, 192)]) r_142_58 rfl rfl rfl ?_
  have pp_m2 : PinR m2 := by rw [e_m2, e_m1]; exact PinR_up (PinR_up hp rfl) rfl
  have c59_1 : m2 200 (16 * h + 1) = (-1) := by show m2 200 (16 * h + 1) = _; rw [e_m2, nu_no (by decide), e_m1, nu_no (by decide)]; exact (hr0.1.1 1 (by decide) (by decide)).trans hb0
  refine gx_ci (nx := 62) (S2 := []) (l_131 hT pp_m2 (h := h) (k := 1) (i := 16 * h + 1) (by omega) (by omega)) r_142_59 rfl rfl rfl rfl rfl (rcv_v rfl (ty_192 hT) (by decide) rfl (by decide)) rfl (by decide) rfl (fun x59_1 n59_1 q59_1 => ?_)
  obtain ⟨e_x59_1, z_x59_1⟩ := q59_1
  have y_x59_1 := z_x59_1.symm
  subst y_x59_1
  rw [e_x59_1, c59_1]
  show GX T 5 142 62 [(2, 192), (0, (h : Int)), (0, a), (0, (h : Int) + 1), (0, (if canF w D (h : Int) a s = true then 1 else 0)), (0, 16)] [(0, (-1))] m2 (RV (fun m1 => HourP nt m m1 h s (hourF w D (h : Int) a s).1 (hourF w D (h : Int) a s).2))
  refine gx_st (L' := [(2, 192), (0, (h : Int)), (0, a), (0, (h : Int) + 1), (0, (if canF w D (h : Int) a s = true then 1 else 0)), (0, 16)]) (S' := [(0, (-1)), (0, (-1))]) r_142_62 rfl rfl rfl ?_
  refine gx_ic (P := ¬ (-1) = (-1)) r_142_63 (rfl) (fun h63 => ?_) (fun h63 => ?_)
  · omega
  · have h63 := Decidable.not_not.mp h63
    exact gx_rt r_142_66 rfl rfl ⟨rfl, by rw [hour_0 hb0]; exact hourp_st (s2 := s) (v := 0) (by decide) rfl rfl k22 rw_m2 (fun z => absurd hb0 z) (by show m2 201 h = _; rw [e_m2, nu_no (by decide), e_m1, nu_at]) (by show m2 192 21 = _; rw [e_m2, nu_no (by decide), e_m1, nu_no (by decide)]) (by show m2 192 22 = _; rw [e_m2, nu_no (by decide), e_m1, nu_no (by decide)]) (fun c => by rw [e_m2, nu_x (by omega), e_m1, nu_x (by omega)]) (fun p i x1 x2 x3 x4 x5 => by rw [e_m2, nu_x (by omega), e_m1, nu_x (by omega)])⟩
theorem y_142 (hT : TT T) (hp : PinR m) {w : Wd} (hB : WB w) {nt : Int} (hE : EW nt m w) (hP : WP w) {D : Nat → Nat → Int} (eD : ∀ a b : Nat, a < 7 → b < 7 → m 199 (7 * a + b) = D a b) (hD : WyD w D) {h : Nat} (hh : h < 12) {s : Wd} (hr0 : RowR nt m h s) (k22 : m 192 22 = s 16) (hS : SBw w s) (k2 : 0 ≤ s 2 ∧ s 2 ≤ 60) (k3 : s 3 ≤ 100) (k6 : ∀ b : Nat, b < 5 → 0 ≤ s (6 + b) ∧ s (6 + b) ≤ 600) (k11 : ∀ t : Nat, t < 5 → (t : Int) < w 5 → 0 ≤ s (11 + t) ∧ s (11 + t) ≤ 9) (hnt : NtS nt w s) (k204 : ∀ c : Nat, c < 5 → 0 ≤ m 204 c ∧ m 204 c ≤ 20) {a : Int} (ha : 0 ≤ a ∧ a ≤ 16) : GX T 5 142 0 [(2, 192), (0, (h : Int)), (0, a), (9, 0), (9, 0), (9, 0)] [] m (RV (fun m1 => HourP nt m m1 h s (hourF w D (h : Int) a s).1 (hourF w D (h : Int) a s).2)) := by
  refine gx_st (L' := [(2, 192), (0, (h : Int)), (0, a), (9, 0), (9, 0), (9, 0)]) (S' := [(0, (h : Int))]) r_142_0 rfl rfl rfl ?_
  refine gx_st (L' := [(2, 192), (0, (h : Int)), (0, a), (9, 0), (9, 0), (9, 0)]) (S' := [(0, 1), (0, (h : Int))]) r_142_1 rfl rfl rfl ?_
  refine gx_ar (L' := [(2, 192), (0, (h : Int)), (0, a), (9, 0), (9, 0), (9, 0)]) (S' := []) (t := 0) (e := w32 ((h : Int) + 1)) (z := (h : Int) + 1) r_142_2 rfl rfl rfl (w32_eq (by omega) (by omega) (by omega)) ?_
  refine gx_st (L' := [(2, 192), (0, (h : Int)), (0, a), (0, (h : Int) + 1), (9, 0), (9, 0)]) (S' := []) r_142_3 rfl rfl rfl ?_
  refine gx_st (L' := [(2, 192), (0, (h : Int)), (0, a), (0, (h : Int) + 1), (9, 0), (9, 0)]) (S' := [(2, 192)]) r_142_4 rfl rfl rfl ?_
  refine gx_st (L' := [(2, 192), (0, (h : Int)), (0, a), (0, (h : Int) + 1), (9, 0), (9, 0)]) (S' := [(0, (h : Int)), (2, 192)]) r_142_5 rfl rfl rfl ?_
  refine gx_st (L' := [(2, 192), (0, (h : Int)), (0, a), (0, (h : Int) + 1), (9, 0), (9, 0)]) (S' := [(0, a), (0, (h : Int)), (2, 192)]) r_142_6 rfl rfl rfl ?_
  refine gx_ci (nx := 10) (S2 := []) (y_137 hT hp hB hE eD (h := h) (by omega) hr0 hS ha) r_142_7 rfl rfl rfl rfl rfl (rcv_v rfl (ty_192 hT) (by decide) rfl (by decide)) rfl (by decide) rfl (fun x7 n7 q7 => ?_)
  obtain ⟨e_x7, z_x7⟩ := q7
  obtain rfl := z_x7.symm
  rw [e_x7]
  show GX T 5 142 10 [(2, 192), (0, (h : Int)), (0, a), (0, (h : Int) + 1), (9, 0), (9, 0)] [(0, (if canF w D (h : Int) a s = true then 1 else 0))] m (RV (fun m1 => HourP nt m m1 h s (hourF w D (h : Int) a s).1 (hourF w D (h : Int) a s).2))
  refine gx_st (L' := [(2, 192), (0, (h : Int)), (0, a), (0, (h : Int) + 1), (0, (if canF w D (h : Int) a s = true then 1 else 0)), (9, 0)]) (S' := []) r_142_10 rfl rfl rfl ?_
  refine gx_st (L' := [(2, 192), (0, (h : Int)), (0, a), (0, (h : Int) + 1), (0, (if canF w D (h : Int) a s = true then 1 else 0)), (9, 0)]) (S' := [(0, 0)]) r_142_12 rfl rfl rfl ?_
  refine gx_st (L' := [(2, 192), (0, (h : Int)), (0, a), (0, (h : Int) + 1), (0, (if canF w D (h : Int) a s = true then 1 else 0)), (0, 0)]) (S' := []) r_142_13 rfl rfl rfl ?_
  refine cp_l hT hp hh (fun m1 p1 c1 f1 => ?_) 17 0 m (by omega) (by omega) hp (fun j hj => absurd hj (Nat.not_lt_zero _)) (fun _ _ _ => rfl)
  have e1 : EW nt m1 w := ew_e hE (fun i => f1 193 i (by omega)) (fun i _ _ => f1 192 i (by omega))
  have d1 : ∀ a b : Nat, a < 7 → b < 7 → m1 199 (7 * a + b) = D a b := fun x y hx hy => (f1 199 (7 * x + y) (by omega)).trans (eD x y hx hy)
  have r0 : RowR nt m1 h s := row_e hr0 (fun i _ _ => f1 200 i (by omega))
  have r1 : RowW nt m1 (h + 1) s := ⟨fun k hk h3 => (c1 k (by omega)).trans (hr0.1.1 k hk h3), fun b hb => (c1 (6 + b) (by omega)).trans (hr0.1.2.1 b hb), fun t ht hn => (c1 (11 + t) (by omega)).trans (hr0.1.2.2 t ht hn)⟩
  have tr : ∀ (v : AV) (m2 : Mm), RV (fun m2 => HourP nt m1 m2 h s (hourF w D (h : Int) a s).1 (hourF w D (h : Int) a s).2) v m2 → RV (fun m2 => HourP nt m m2 h s (hourF w D (h : Int) a s).1 (hourF w D (h : Int) a s).2) v m2 := fun v m2 z => ⟨z.1, hourp_tr z.2 (f1 192 21 (by omega)) (fun c => f1 204 c (by omega)) (fun p i x1 _ _ _ _ => f1 p i x1)⟩
  rcases hS with z | ⟨b, p, hb, hb7, hps, hpn⟩
  · exact gx_imp (n_142 hT p1 hB e1 hP d1 hD hh r0 r1 ((f1 192 22 (by omega)).trans k22) z) tr
  · exact gx_imp (r_142 hT p1 hB e1 hP d1 hD hh r0 r1 ((f1 192 22 (by omega)).trans k22) hb hb7 hps hpn k2 k3 k6 k11 hnt (fun c hc => by rw [f1 204 c (by omega)]; exact k204 c hc) ha) tr
end HOURR
