/-! an instruction of the checker is sound: one by one -/
section AJ
variable {W : List Nat} {T : List Kd} {m : Mm} {G' : List AV} {ρ : Nat → Int} {nid nx : Nat} {L S G : List SV} {L' S' : List AV}
theorem q32_ok {x : Int} (h : in32 x) : gq0 q32 (0, x) := (gq_0 rfl).mpr ⟨rfl, h⟩
theorem q64_ok {x : Int} (h : in64 x) : gq0 q64 (1, x) := (gq_1 rfl).mpr ⟨rfl, h⟩
theorem iv_ok {lo hi z : Int} (h1 : lo ≤ z) (h2 : z ≤ hi) : gq0 (iv lo hi) (0, w32 z) := by
  unfold iv
  split
  · rw [w32_id ⟨by omega, by omega⟩]
    exact (gq_0 rfl).mpr ⟨rfl, h1, h2⟩
  · exact q32_ok (w32_in _)
theorem addS_ok {x y : SV} {a b : Int} (hn : 0 < nid) (tx : x.1.1 = 0) (ty : y.1.1 = 0) (hx : gs ρ nid x (0, a)) (hy : gs ρ nid y (0, b)) : gs ρ nid (addS x y) (0, w32 (a + b)) := by
  have h1 := (gq_0 tx).mp hx.1
  have h2 := (gq_0 ty).mp hy.1
  dsimp only at h1 h2
  unfold addS
  split
  · rw [w32_id ⟨by omega, by omega⟩]
    refine ⟨(gq_0 rfl).mpr ⟨rfl, by dsimp only; omega, by dsimp only; omega⟩, ?_⟩
    split
    · refine ⟨fun z => ⟨Or.inl rfl, ?_⟩, hx.2.2⟩
      have := (hx.2.1 z).2
      dsimp only at this ⊢
      omega
    · split
      · refine ⟨fun z => ⟨Or.inl rfl, ?_⟩, hy.2.2⟩
        have := (hy.2.1 z).2
        dsimp only at this ⊢
        omega
      · exact ⟨fun z => absurd rfl z, hn⟩
  · exact gs_0 hn (q32_ok (w32_in _))
theorem subS_ok {x y : SV} {a b : Int} (hn : 0 < nid) (tx : x.1.1 = 0) (ty : y.1.1 = 0) (hx : gs ρ nid x (0, a)) (hy : gs ρ nid y (0, b)) : gs ρ nid (subS x y) (0, w32 (a - b)) := by
  have h1 := (gq_0 tx).mp hx.1
  have h2 := (gq_0 ty).mp hy.1
  dsimp only at h1 h2
  unfold subS
  split
  · rw [w32_id ⟨by omega, by omega⟩]
    refine ⟨(gq_0 rfl).mpr ⟨rfl, by dsimp only; omega, by dsimp only; omega⟩, ?_⟩
    split
    · refine ⟨fun z => ⟨Or.inl rfl, ?_⟩, hx.2.2⟩
      have := (hx.2.1 z).2
      dsimp only at this ⊢
      omega
    · exact ⟨fun z => absurd rfl z, hn⟩
  · exact gs_0 hn (q32_ok (w32_in _))
theorem mulS_ok {x y : SV} {a b : Int} (hn : 0 < nid) (tx : x.1.1 = 0) (ty : y.1.1 = 0) (hx : gs ρ nid x (0, a)) (hy : gs ρ nid y (0, b)) : gs ρ nid (mulS x y) (0, w32 (a * b)) := by
  have h1 := (gq_0 tx).mp hx.1
  have h2 := (gq_0 ty).mp hy.1
  dsimp only at h1 h2
  unfold mulS
  split
  · rename_i h
    obtain rfl : a = x.1.2.1 := by omega
    exact gs_0 hn (iv_ok (Int.mul_le_mul_of_nonneg_left h2.2.1 h.2) (Int.mul_le_mul_of_nonneg_left h2.2.2 h.2))
  · split
    · rename_i h
      obtain rfl : b = y.1.2.1 := by omega
      rw [Int.mul_comm a]
      exact gs_0 hn (iv_ok (Int.mul_le_mul_of_nonneg_left h1.2.1 h.2) (Int.mul_le_mul_of_nonneg_left h1.2.2 h.2))
    · exact gs_0 hn (q32_ok (w32_in _))
theorem tmod_b {x c : Int} (hc : 1 ≤ c) : 1 - c ≤ x.tmod c ∧ x.tmod c ≤ c - 1 ∧ (0 ≤ x → 0 ≤ x.tmod c) := by
  have h1 := Int.natAbs_tmod x c
  have h2 : x.natAbs % c.natAbs < c.natAbs := Nat.mod_lt _ (by omega)
  exact ⟨by omega, by omega, fun h => Int.tmod_nonneg c h⟩
theorem ld1_ok {t i : Nat} (ht : t ≤ 2) (hn : 0 < nid) (hL : gSL ρ nid L L') (hS : gSL ρ nid S S') (hG : gSL ρ nid G G') (hm : Gam m) : RA W T m G' (ld1 t i nx L S G nid) ((gl L' t i).bind fun x => some (nx, L', (t, x) :: S', T, m)) :=
  RA_gl ht hL fun _ _ _ g => RA_1 hn hL ⟨g, hS⟩ hG hm Fr_rf
theorem ld3_ok {i : Nat} (hn : 0 < nid) (hL : gSL ρ nid L L') (hS : gSL ρ nid S S') (hG : gSL ρ nid G G') (hm : Gam m) : RA W T m G' (match L[i]? with
      | some v => if v.1.1 = 3 then one1 nx L (v :: S) G nid else ld1 2 i nx L S G nid
      | none => none) ((gl L' 2 i).bind fun x => some (nx, L', (2, x) :: S', T, m)) := by
  cases e : L[i]? with
  | none => exact RA_n
  | some v =>
    dsimp only
    by_cases h3 : v.1.1 = 3
    · rw [if_pos h3]
      obtain ⟨b, h1, h2⟩ := F2_get hL e
      have h4 := gs_tag3 h2 h3
      unfold gl
      rw [h1]
      dsimp only
      rw [if_pos h4]
      refine RA_1 hn hL ⟨?_, hS⟩ hG hm Fr_rf
      rw [← h4]; exact h2
    · rw [if_neg h3]
      exact ld1_ok (by decide) hn hL hS hG hm
theorem str1_ok {t i : Nat} (ht : t ≤ 2) (hn : 0 < nid) (hL : gSL ρ nid L L') (hS : gSL ρ nid S S') (hG : gSL ρ nid G G') (hm : Gam m) : RA W T m G' (str1 t i nx L S G nid) ((pp t S').bind fun q => if i < L'.length then some (nx, st1 L' i (t, q.1), q.2, T, m) else none) :=
  RA_pp ht hS fun _ _ _ _ _ g h => RA_i (fun e => by rw [F2_len hL]; exact e) fun _ => RA_1 (Nat.succ_pos _) (gs_st1 (Nat.succ_pos _) (gSL_ext hL) (gs_sym hn g)) (gSL_ext h) (gSL_ext hG) hm Fr_rf
theorem str2_ok {i : Nat} (hn : 0 < nid) (hL : gSL ρ nid L L') (hS : gSL ρ nid S S') (hG : gSL ρ nid G G') (hm : Gam m) : RA W T m G' (str2 i nx L S G nid) ((pp 1 S').bind fun q => if i + 1 < L'.length then some (nx, st2 L' i (1, q.1), q.2, T, m) else none) :=
  RA_pp (by decide) hS fun _ _ _ _ _ g h => RA_i (fun e => by rw [F2_len hL]; exact e) fun _ => RA_1 (Nat.succ_pos _) (gs_st2 (Nat.succ_pos _) (gSL_ext hL) (gs_sym hn g)) (gSL_ext h) (gSL_ext hG) hm Fr_rf
theorem bin2_ok {t t' : Nat} {f : SV → SV → SV} {F : Int → Int → Int} (ht : t ≤ 2) (hn : 0 < nid) (hL : gSL ρ nid L L') (hS : gSL ρ nid S S') (hG : gSL ρ nid G G') (hm : Gam m) (hf : ∀ x y a b, x.1.1 = t → y.1.1 = t → gs ρ nid x (t, a) → gs ρ nid y (t, b) → gs ρ nid (f x y) (t', F a b)) : RA W T m G' (bin2 t f nx L S G nid) ((pp t S').bind fun q => (pp t q.2).bind fun q2 => some (nx, L', (t', F q2.1 q.1) :: q2.2, T, m)) :=
  RA_pp ht hS fun _ _ _ _ t1 g1 h1 => RA_pp ht h1 fun _ _ _ _ t2 g2 h2 => RA_1 hn hL ⟨hf _ _ _ _ t2 t1 g2 g1, h2⟩ hG hm Fr_rf
theorem un1_ok {t t' : Nat} {f : SV → SV} {F : Int → Int} (ht : t ≤ 2) (hn : 0 < nid) (hL : gSL ρ nid L L') (hS : gSL ρ nid S S') (hG : gSL ρ nid G G') (hm : Gam m) (hf : ∀ x a, x.1.1 = t → gs ρ nid x (t, a) → gs ρ nid (f x) (t', F a)) : RA W T m G' (un1 t f nx L S G nid) ((pp t S').bind fun q => some (nx, L', (t', F q.1) :: q.2, T, m)) :=
  RA_pp ht hS fun _ _ _ _ t1 g1 h1 => RA_1 hn hL ⟨hf _ _ t1 g1, h1⟩ hG hm Fr_rf
theorem gf1_ok {a : Int} {b cw : Nat} (hT : ∀ o, 0 < o → o < 213 → T[o]? = some (tyK (tyO o))) (hn : 0 < nid) (hL : gSL ρ nid L L') (hS : gSL ρ nid S S') (hG : gSL ρ nid G G') (hm : Gam m) : RA W T m G' (gf1 nx a b cw L S G nid) ((pp 2 S').bind fun q => (T[q.1.toNat]?).bind fun kd => if 0 < q.1 ∧ kd.1 = a.toNat ∧ kd.1 < 100 ∧ b < kd.2 then (if cw % 10 = 2 then (if m q.1.toNat b < 0 then none else some (nx, L', (2, m q.1.toNat b) :: q.2, T, m)) else some (nx, L', (if cw % 10 = 1 then 1 else 0, m q.1.toNat b) :: q.2, T, m)) else none) := by
  refine RA_pp (by decide) hS fun x S1 o S1' tx g h => ?_
  obtain ⟨h1, h2, h3, h4⟩ := ob_sh hT g tx
  refine RA_lk h3 (RA_i (fun hc => ⟨h1, hc.1, hc.2.1, hc.2.2.1⟩) fun hc => ?_)
  have hg := hm o.toNat (by omega) h2 b (by rw [h4]; exact hc.2.2.1)
  rw [h4] at hg
  have ht := hc.2.2.2
  by_cases e2 : cw % 10 = 2
  · rw [if_pos e2] at ht ⊢
    have h5 : 0 < m o.toNat b := by
      unfold gc at hg
      rw [ht] at hg
      exact hg.1
    dsimp only
    rw [if_neg (by omega)]
    exact RA_1 hn hL ⟨gs_0 hn (gc_gq hg ht), h⟩ hG hm Fr_rf
  · rw [if_neg e2] at ht ⊢
    exact RA_1 hn hL ⟨gs_0 hn (gc_gq hg ht), h⟩ hG hm Fr_rf
theorem pf1_ok {a : Int} {b cw : Nat} (hT : ∀ o, 0 < o → o < 213 → T[o]? = some (tyK (tyO o))) (hn : 0 < nid) (hL : gSL ρ nid L L') (hS : gSL ρ nid S S') (hG : gSL ρ nid G G') (hm : Gam m) : RA W T m G' (pf1 W nx a b cw L S G nid) ((pp (if cw % 10 = 2 then 2 else if cw % 10 = 1 then 1 else 0) S').bind fun v => (pp 2 v.2).bind fun q => (T[q.1.toNat]?).bind fun kd => if 0 < q.1 ∧ kd.1 = a.toNat ∧ kd.1 < 100 ∧ b < kd.2 ∧ (cw % 10 = 3 → v.1 = 0 ∨ v.1 = 1) ∧ (cw % 10 = 2 → 0 ≤ v.1) then some (nx, L', q.2, T, nu_up m q.1.toNat b v.1) else none) := by
  refine RA_pp (by split <;> (try split) <;> omega) hS fun v S1 w S1' tv gv h0 => RA_pp (by decide) h0 fun x S2 o S2' tx g h => ?_
  obtain ⟨h1, h2, h3, h4⟩ := ob_sh hT g tx
  refine RA_lk h3 (RA_i (fun hc => ⟨h1, hc.1, hc.2.1, hc.2.2.1, fun z => ?_, fun z => ?_⟩) fun hc => ?_)
  · have h5 := hc.2.2.2.2.1 z
    rw [if_neg (by omega), if_neg (by omega)] at tv
    have h6 := (gq_0 tv).mp gv.1
    dsimp only at h6 ⊢
    omega
  · rw [if_pos z] at tv
    have h6 := (gq_2 tv).mp gv.1
    dsimp only at h6 ⊢
    omega
  · refine RA_1 hn hL h hG (Gam_up hm ?_) (Fr_up ?_)
    · rw [h4]; exact leC_ok hc.2.2.2.1 gv.1
    · rw [h4, if_pos hc.2.1]; exact hc.2.2.2.2.2
theorem al1_ok (hT : ∀ o, 0 < o → o < 213 → T[o]? = some (tyK (tyO o))) (hn : 0 < nid) (hL : gSL ρ nid L L') (hS : gSL ρ nid S S') (hG : gSL ρ nid G G') (hm : Gam m) : RA W T m G' (al1 nx L S G nid) ((pp 2 S').bind fun q => (T[q.1.toNat]?).bind fun kd => if 100 ≤ kd.1 ∧ kd.2 < 2147483648 ∧ kd.1 < 108 then some (nx, L', (0, (kd.2 : Int)) :: q.2, T, m) else none) := by
  refine RA_pp (by decide) hS fun x S1 o S1' tx g h => ?_
  obtain ⟨h1, h2, h3, h4⟩ := ob_sh hT g tx
  exact RA_lk h3 (RA_i (fun hc => hc) fun hc => RA_1 hn hL ⟨gs_0 hn ((gq_0 rfl).mpr ⟨rfl, Int.le_refl _, Int.le_refl _⟩), h⟩ hG hm Fr_rf)
theorem rd1_ok {k k2 t : Nat} {P : Int → Int → Kd → Int → Prop} [∀ o i kd x, Decidable (P o i kd x)] (hT : ∀ o, 0 < o → o < 213 → T[o]? = some (tyK (tyO o))) (ht : t ≤ 2) (hn : 0 < nid) (hL : gSL ρ nid L L') (hS : gSL ρ nid S S') (hG : gSL ρ nid G G') (hm : Gam m)
    (hP : ∀ (o i : Int) (kd : Kd) (x : Int), 0 < o → k ≤ kd.1 → kd.1 ≤ k2 → 0 ≤ i → i.toNat < kd.2 → (t = 2 → 0 ≤ x) → P o i kd x) :
    RA W T m G' (rd1 k k2 t nx L S G nid) ((pp 0 S').bind fun i => (pp 2 i.2).bind fun q => (T[q.1.toNat]?).bind fun kd => if P q.1 i.1 kd (m q.1.toNat i.1.toNat) then some (nx, L', (t, m q.1.toNat i.1.toNat) :: q.2, T, m) else none) := by
  refine RA_pp (by decide) hS fun iv S1 i S1' ti gi h0 => RA_pp (by decide) h0 fun x S2 o S2' tx g h => ?_
  obtain ⟨h1, h2, h3, h4⟩ := ob_sh hT g tx
  have hi := (gq_0 ti).mp gi.1
  dsimp only at hi
  refine RA_lk h3 ?_
  refine RA_ii fun hc => ?_
  obtain ⟨c1, c2, c3, c4, c5⟩ := hc
  have hx : gc (cT x.1.2.1.toNat i.toNat) (m o.toNat i.toNat) := by
    have := hm o.toNat (by omega) h2 i.toNat (by rw [h4]; omega)
    rw [h4] at this
    exact this
  have hy := ld_ok c3 hi.2.1 hi.2.2 (by rw [c5]; exact ht) hx
  have hz := gc_gq hy c5
  have hp : P o i (tyK x.1.2.1.toNat) (m o.toNat i.toNat) := hP _ _ _ _ h1 c1 c2 (by omega) (by omega) (fun z => by
    have := (gq_2 (c5.trans z)).mp hz
    dsimp only at this
    omega)
  dsimp only
  rw [if_pos hp]
  exact RA_1 hn hL ⟨gs_0 hn hz, h⟩ hG hm Fr_rf
theorem wr1_ok {k t : Nat} (hT : ∀ o, 0 < o → o < 213 → T[o]? = some (tyK (tyO o))) (ht : t ≤ 2) (hk : 100 ≤ k) (hn : 0 < nid) (hL : gSL ρ nid L L') (hS : gSL ρ nid S S') (hG : gSL ρ nid G G') (hm : Gam m) :
    RA W T m G' (wr1 k t W nx L S G nid) ((pp t S').bind fun v => (pp 0 v.2).bind fun i => (pp 2 i.2).bind fun q => (T[q.1.toNat]?).bind fun kd => if 0 < q.1 ∧ kd.1 = k ∧ 0 ≤ i.1 ∧ i.1.toNat < kd.2 then some (nx, L', q.2, T, nu_up m q.1.toNat i.1.toNat v.1) else none) := by
  refine RA_pp ht hS fun v Sv w Sv' tv gv hv => RA_pp (by decide) hv fun iv S1 i S1' ti gi h0 => RA_pp (by decide) h0 fun x S2 o S2' tx g h => ?_
  obtain ⟨h1, h2, h3, h4⟩ := ob_sh hT g tx
  have hi := (gq_0 ti).mp gi.1
  dsimp only at hi
  refine RA_lk h3 (RA_i (fun hc => ⟨h1, hc.1, by omega, by omega⟩) fun hc => RA_1 hn hL h hG (Gam_up hm ?_) (Fr_up ?_))
  · rw [h4]; exact sd_ok hc.2.1 hi.2.1 hi.2.2 hc.2.2.2.1 gv.1
  · rw [h4, if_neg (by omega)]; exact hc.2.2.2.2
end AJ
