/-! both sides hold one world: the isle, the acts, the images -/
/-- the cells of a world that the isle tells -/
def AgW (w w' : Nat → Int) : Prop := ∀ i : Nat, i < 57 → ¬ i = 8 → w' i = w i
theorem adjW_w {w w' : Nat → Int} (e : AgW w w') : adjW w' = adjW w := funext fun a => funext fun b => propext (adj_eq (fun i hi => e i (by omega) (by omega)) a b)
theorem isd_w {m : Mm} {o : Nat} {w w' : Nat → Int} (h : IsD m o w) (e : AgW w w') : IsD m o w' := by
  obtain ⟨a0, a1, a2, a3, a4, a5, a6, a7, a8, a9, b1, b2, b3, b4⟩ := h
  refine ⟨a0.trans (e 9 (by decide) (by decide)).symm, a1.trans (e 0 (by decide) (by decide)).symm, a2.trans (e 1 (by decide) (by decide)).symm, a3.trans (e 2 (by decide) (by decide)).symm, a4.trans (e 3 (by decide) (by decide)).symm, a5.trans (e 4 (by decide) (by decide)).symm, a6.trans (e 5 (by decide) (by decide)).symm, a7.trans (e 6 (by decide) (by decide)).symm, a8.trans (e 7 (by decide) (by decide)).symm, a9.trans (e 10 (by decide) (by decide)).symm, fun t t1 t2 => ?_, fun t t1 t2 => ?_, fun t t1 t2 => ?_, BS_eq b4 (fun _ _ => rfl) (fun i hi => e i (by omega) (by omega))⟩
  · rw [e 5 (by decide) (by decide)] at t2
    rw [e (31 + 2 * t) (by omega) (by omega), e (32 + 2 * t) (by omega) (by omega)]
    exact b1 t t1 t2
  · rw [e 6 (by decide) (by decide)] at t2
    rw [e (41 + 2 * t) (by omega) (by omega), e (42 + 2 * t) (by omega) (by omega)]
    exact b2 t t1 t2
  · rw [e 7 (by decide) (by decide)] at t2
    rw [e (47 + 2 * t) (by omega) (by omega), e (48 + 2 * t) (by omega) (by omega)]
    exact b3 t t1 t2
theorem isw_w {m : Mm} {o : Nat} {w w' : Nat → Int} (h : IsWy m o w) (e : AgW w w') : IsWy m o w' := by
  intro d hd a b ha hb
  rw [adjW_w e, e 0 (by decide) (by decide)] at hd
  rw [e 0 (by decide) (by decide)] at ha hb
  exact h d hd a b ha hb
/-- the isle at o tells the world w -/
def WD (m : Mm) (o : Nat) (w : Nat → Int) : Prop := IsD m o w ∧ WB w ∧ IsWy m o w ∧ WP w
theorem WD_eq {m m' : Mm} {o : Nat} {w : Nat → Int} (h : WD m o w) (e : ∀ p i : Nat, o ≤ p → p ≤ o + 8 → i < 900 → m' p i = m p i) : WD m' o w := ⟨IsD_eq h.1 e, h.2.1, isw_cp h.2.1 h.2.2.1 (fun k hk => e (o + 8) k (by omega) (by omega) (by omega)), h.2.2.2⟩
theorem WD_w {m : Mm} {o : Nat} {w w' : Nat → Int} (h : WD m o w) (e : AgW w w') : WD m o w' := ⟨isd_w h.1 e, WB_eq h.2.1 (fun i hi => e i (by omega) (by omega)), isw_w h.2.2.1 e, WP_eq h.2.2.2 (fun i hi => e i (by omega) (by omega))⟩
theorem WD_cp {m m1 : Mm} {s o : Nat} {w : Nat → Int} (h : WD m s w) (c : CpI m m1 s o) : WD m1 o w := ⟨isd_cp h.1 c.1 c.2, h.2.1, isw_cp h.2.1 h.2.2.1 c.2.2.2.2.2.2.2.2, h.2.2.2⟩
/-- the acts at o are those of the world w -/
def IsA (m : Mm) (o : Nat) (w : Nat → Int) : Prop := m o 2 = w 8 ∧ (∀ i : Nat, i < 12 → (i : Int) < w 8 → m (o + 2) i = w (57 + i) / 100) ∧ (∀ i : Nat, i < 12 → (i : Int) < w 8 → ∀ h : Nat, h < 12 → w (57 + i) / 100 = (h : Int) → m (o + 1) h = w (57 + i) % 100) ∧ (∀ h : Nat, h < 12 → ¬ HasA w (h : Int) → m (o + 1) h = 0)
theorem HasA_w {w w' : Nat → Int} {h : Int} (e8 : w' 8 = w 8) (e : ∀ i : Nat, i < 12 → w' (57 + i) = w (57 + i)) (a : HasA w h) : HasA w' h := by
  obtain ⟨i, i1, i2, i3⟩ := a
  exact ⟨i, i1, by rw [e8]; exact i2, by rw [e i i1]; exact i3⟩
theorem IsA_w {m : Mm} {o : Nat} {w w' : Nat → Int} (a : IsA m o w) (e8 : w' 8 = w 8) (e : ∀ i : Nat, i < 12 → w' (57 + i) = w (57 + i)) : IsA m o w' := by
  obtain ⟨a1, a2, a3, a4⟩ := a
  refine ⟨a1.trans e8.symm, fun i i1 i2 => ?_, fun i i1 i2 h h1 h2 => ?_, fun h h1 h2 => ?_⟩
  · rw [e i i1]; exact a2 i i1 (by rw [← e8]; exact i2)
  · rw [e i i1] at h2 ⊢; exact a3 i i1 (by rw [← e8]; exact i2) h h1 h2
  · exact a4 h h1 (fun z => h2 (HasA_w e8 e z))
theorem IsA_cp {m m1 : Mm} {s o : Nat} {w : Nat → Int} (a : IsA m s w) (c : CpA m m1 s o) : IsA m1 o w := by
  obtain ⟨a1, a2, a3, a4⟩ := a
  exact ⟨c.2.2.trans a1, fun i i1 i2 => (c.2.1 i i1).trans (a2 i i1 i2), fun i i1 i2 h h1 h2 => (c.1 h h1).trans (a3 i i1 i2 h h1 h2), fun h h1 h2 => (c.1 h h1).trans (a4 h h1 h2)⟩
theorem IsA_eq {m m' : Mm} {o : Nat} {w : Nat → Int} (a : IsA m o w) (e : ∀ p i : Nat, o ≤ p → p ≤ o + 2 → i < 900 → m' p i = m p i) : IsA m' o w :=
  IsA_cp a ⟨fun k hk => e (o + 1) k (by omega) (by omega) (by omega), fun k hk => e (o + 2) k (by omega) (by omega) (by omega), e o 2 (by omega) (by omega) (by omega)⟩
theorem isa_zero {m : Mm} {o : Nat} {w : Nat → Int} (k : WOK w) (a : IsA m o w) {h : Nat} (hh : h < 12) : m (o + 1) h = 0 ↔ ¬ HasA w (h : Int) := by
  constructor
  · rintro e ⟨i, i1, i2, i3⟩
    have h1 := a.2.2.1 i i1 i2 h hh i3
    have h2 := k.2.1 i i1 i2
    omega
  · exact a.2.2.2 h hh
theorem isa_add {m m1 : Mm} {w w1 : Nat → Int} {n h : Nat} {a : Int} (r : IsA m 22 w) (hA : ¬ HasA w (h : Int)) (hn : w 8 = (n : Int)) (hn12 : n < 12) (hh : h < 12) (ha : 1 ≤ a ∧ a ≤ 16) (u : ActU m m1 n h a) (e8 : w1 8 = (n : Int) + 1) (en : w1 (57 + n) = 100 * (h : Int) + a) (e : ∀ i : Nat, ¬ i = 8 → ¬ i = 57 + n → w1 i = w i) : IsA m1 22 w1 := by
  obtain ⟨a1, a2, a3, a4⟩ := r
  obtain ⟨u1, u2, u3⟩ := u
  have hA1 : HasA w1 (h : Int) := ⟨n, hn12, by omega, by rw [en]; omega⟩
  have up : ∀ x : Int, HasA w x → HasA w1 x := fun x ⟨i, i1, i2, i3⟩ => ⟨i, i1, by omega, by rw [e (57 + i) (by omega) (by omega)]; exact i3⟩
  refine ⟨u1.trans e8.symm, fun i i1 i2 => ?_, fun i i1 i2 x x1 x2 => ?_, fun x x1 x2 => ?_⟩
  · rw [u3 i i1]
    by_cases c : i = n
    · rw [if_pos c, c, en]; omega
    · rw [if_neg c, e (57 + i) (by omega) (by omega)]; exact a2 i i1 (by omega)
  · rw [u2 x x1]
    by_cases c : i = n
    · rw [c, en] at x2 ⊢
      rw [if_pos (by omega)]; omega
    · rw [e (57 + i) (by omega) (by omega)] at x2 ⊢
      have z : ¬ x = h := fun y => hA ⟨i, i1, by omega, by rw [x2, y]⟩
      rw [if_neg z]; exact a3 i i1 (by omega) x x1 x2
  · have z : ¬ x = h := fun y => x2 (by rw [y]; exact hA1)
    rw [u2 x x1, if_neg z]
    exact a4 x x1 (fun y => x2 (up _ y))
theorem isa_drop {m m1 : Mm} {w w1 : Nat → Int} {n h : Nat} (k : WOK w) (r : IsA m 22 w) (hn : w 8 = ((n + 1 : Nat) : Int)) (hn12 : n < 12) (ho : w (57 + n) / 100 = (h : Int)) (u : ActD m m1 n h) (e8 : w1 8 = (n : Int)) (e : ∀ i : Nat, ¬ i = 8 → w1 i = w i) : IsA m1 22 w1 := by
  obtain ⟨a1, a2, a3, a4⟩ := r
  obtain ⟨u1, u2, u3⟩ := u
  refine ⟨u1.trans e8.symm, fun i i1 i2 => ?_, fun i i1 i2 x x1 x2 => ?_, fun x x1 x2 => ?_⟩
  · rw [u3 i i1, e (57 + i) (by omega)]; exact a2 i i1 (by omega)
  · rw [e (57 + i) (by omega)] at x2 ⊢
    have z : ¬ x = h := fun y => k.2.2 i n (by omega) hn12 (by omega) (by rw [x2, ho, y])
    rw [u2 x x1, if_neg z]; exact a3 i i1 (by omega) x x1 x2
  · rw [u2 x x1]
    by_cases c : x = h
    · rw [if_pos c]
    · rw [if_neg c]
      refine a4 x x1 (fun ⟨i, i1, i2, i3⟩ => x2 ⟨i, i1, ?_, by rw [e (57 + i) (by omega)]; exact i3⟩)
      have : ¬ i = n := fun y => c (by rw [y, ho] at i3; omega)
      omega
theorem isa_none {m1 : Mm} {w1 : Nat → Int} (e : m1 22 2 = 0) (z : ∀ k : Nat, k < 12 → m1 23 k = 0) (e8 : w1 8 = 0) : IsA m1 22 w1 :=
  ⟨e.trans e8.symm, fun i _ i2 => by omega, fun i _ i2 => by omega, fun h h1 _ => z h h1⟩
/-- a kept world -/
def sl (m : Mm) (k : Nat) : Nat → Int := fun i => m 194 (69 * k + i)
/-- the images -/
def KR (m : Mm) : Prop := ∃ c : Nat, c < 8 ∧ m 1 14 = (c : Int) ∧ ∀ k : Nat, k < 3 → m 195 k = ((c / 2 ^ k % 2 : Nat) : Int) ∧ (c / 2 ^ k % 2 = 1 → WD m (156 + 12 * k) (sl m k) ∧ IsA m (165 + 12 * k) (sl m k))
theorem KR_eq {m m' : Mm} (r : KR m) (e1 : m' 1 14 = m 1 14) (e2 : ∀ i : Nat, m' 195 i = m 195 i) (e3 : ∀ i : Nat, m' 194 i = m 194 i) (e4 : ∀ p i : Nat, 156 ≤ p → p ≤ 191 → i < 900 → m' p i = m p i) : KR m' := by
  obtain ⟨c, c1, c2, c3⟩ := r
  refine ⟨c, c1, e1.trans c2, fun k hk => ⟨(e2 k).trans (c3 k hk).1, fun z => ?_⟩⟩
  obtain ⟨d1, d2⟩ := (c3 k hk).2 z
  have es : sl m' k = sl m k := funext fun i => e3 (69 * k + i)
  rw [es]
  exact ⟨WD_eq d1 (fun p i p1 p2 hi => e4 p i (by omega) (by omega) hi), IsA_eq d2 (fun p i p1 p2 hi => e4 p i (by omega) (by omega) hi)⟩
/-- one world, one line of acts, the same images -/
def WX (m : Mm) : Prop := WD m 4 (m 193) ∧ IsA m 22 (m 193) ∧ KR m
theorem WX_eq {m m' : Mm} (r : WX m) (e1 : ∀ p i : Nat, 4 ≤ p → p ≤ 12 → i < 900 → m' p i = m p i) (e2 : ∀ p i : Nat, 22 ≤ p → p ≤ 24 → i < 900 → m' p i = m p i) (e3 : ∀ i : Nat, m' 193 i = m 193 i) (k : KR m') : WX m' := by
  refine ⟨?_, ?_, k⟩
  · rw [show m' 193 = m 193 from funext e3]; exact WD_eq r.1 e1
  · rw [show m' 193 = m 193 from funext e3]; exact IsA_eq r.2.1 e2
/-- a span of kinds that is not written -/
theorem fr_rg {W : List Nat} {m m' : Mm} (h : Fr W m m') (a b : Nat) (hW : W.all (fun c => decide (c < 1000 * a ∨ 1000 * b ≤ c)) = true) : ∀ p i : Nat, a ≤ tyO p → tyO p < b → i < 900 → m' p i = m p i := by
  intro p i h1 h2 hi
  refine h p i ?_
  cases e : W.contains (tyO p * 1000 + (if (tyK (tyO p)).1 < 100 then i else 999)) with
  | false => rfl
  | true =>
    exfalso
    have h3 := of_decide_eq_true (List.all_eq_true.mp hW _ (List.contains_iff_mem.mp e))
    by_cases c : (tyK (tyO p)).1 < 100
    · rw [if_pos c] at h3; omega
    · rw [if_neg c] at h3; omega
theorem ty_a : ∀ p : Nat, p < 213 → (4 ≤ p → p ≤ 12 → 4 ≤ tyO p ∧ tyO p < 13) ∧ (22 ≤ p → p ≤ 24 → 22 ≤ tyO p ∧ tyO p < 25) ∧ (156 ≤ p → p ≤ 191 → 78 ≤ tyO p ∧ tyO p < 90) := by decide +kernel
theorem fr_4 {W : List Nat} {m m' : Mm} (h : Fr W m m') (hW : W.all (fun c => decide (c < 1000 * 4 ∨ 1000 * 13 ≤ c)) = true) (p i : Nat) (h1 : 4 ≤ p) (h2 : p ≤ 12) (hi : i < 900) : m' p i = m p i := fr_rg h 4 13 hW p i ((ty_a p (by omega)).1 h1 h2).1 ((ty_a p (by omega)).1 h1 h2).2 hi
theorem fr_22 {W : List Nat} {m m' : Mm} (h : Fr W m m') (hW : W.all (fun c => decide (c < 1000 * 22 ∨ 1000 * 25 ≤ c)) = true) (p i : Nat) (h1 : 22 ≤ p) (h2 : p ≤ 24) (hi : i < 900) : m' p i = m p i := fr_rg h 22 25 hW p i ((ty_a p (by omega)).2.1 h1 h2).1 ((ty_a p (by omega)).2.1 h1 h2).2 hi
theorem fr_k {W : List Nat} {m m' : Mm} (h : Fr W m m') (hW : W.all (fun c => decide (c < 1000 * 78 ∨ 1000 * 90 ≤ c)) = true) (p i : Nat) (h1 : 156 ≤ p) (h2 : p ≤ 191) (hi : i < 900) : m' p i = m p i := fr_rg h 78 90 hW p i ((ty_a p (by omega)).2.2 h1 h2).1 ((ty_a p (by omega)).2.2 h1 h2).2 hi
/-- a frame that leaves the images -/
def nK_ (W : List Nat) : Bool := W.all (fun c => decide (c < 1000 * 78 ∨ 1000 * 90 ≤ c)) && !W.contains 1014 && !W.contains 92999 && !W.contains 93999
theorem KR_fr {W : List Nat} {m m' : Mm} (h : Fr W m m') (hW : nK_ W = true) (r : KR m) : KR m' := by
  unfold nK_ at hW
  rw [Bool.and_eq_true, Bool.and_eq_true, Bool.and_eq_true] at hW
  obtain ⟨⟨⟨h1, h2⟩, h3⟩, h4⟩ := hW
  have n2 : W.contains 1014 = false := by revert h2; cases W.contains 1014 <;> decide
  have n3 : W.contains 92999 = false := by revert h3; cases W.contains 92999 <;> decide
  have n4 : W.contains 93999 = false := by revert h4; cases W.contains 93999 <;> decide
  exact KR_eq r (h 1 14 n2) (fun i => h 195 i n4) (fun i => h 194 i n3) (fr_k h h1)
/-- a frame that leaves the world -/
def nX_ (W : List Nat) : Bool := W.all (fun c => decide (c < 1000 * 4 ∨ 1000 * 13 ≤ c)) && W.all (fun c => decide (c < 1000 * 22 ∨ 1000 * 25 ≤ c)) && !W.contains 91999 && nK_ W
theorem WX_fr {W : List Nat} {m m' : Mm} (h : Fr W m m') (hW : nX_ W = true) (r : WX m) : WX m' := by
  unfold nX_ at hW
  rw [Bool.and_eq_true, Bool.and_eq_true, Bool.and_eq_true] at hW
  obtain ⟨⟨⟨h1, h2⟩, h3⟩, h4⟩ := hW
  have n3 : W.contains 91999 = false := by revert h3; cases W.contains 91999 <;> decide
  exact WX_eq r (fr_4 h h1) (fr_22 h h2) (fun i => h 193 i n3) (KR_fr h h4 r.2.2)
/-- what the acts need to know -/
theorem wa_pre {m : Mm} (hm : Gam m) (hx : Ext m) (r : WX m) : ∃ n : Nat, m 22 2 = (n : Int) ∧ m 193 8 = (n : Int) ∧ n ≤ 12 ∧ (∀ h : Nat, h < 12 → m 23 h = 0 → n < 12) ∧ m 4 2 ≤ 12 ∧ m 4 1 ≤ 7 ∧ m 4 6 ≤ 5 := by
  have b8 := gb_193_8 hm
  have b1 := gb_193_1 hm
  have b0 := gb_193_0 hm
  have b5 := gb_193_5 hm
  have hd := r.1.1
  refine ⟨(m 193 8).toNat, ?_, by omega, by omega, fun h hh z => ?_, ?_, ?_, ?_⟩
  · rw [r.2.1.1]; omega
  · have hA := (isa_zero hx.1 r.2.1 hh).mp z
    exact acts_lt hx.1 (N := (m 193 8).toNat) (t := h) (by omega) (by omega) hh (fun i hi => gb_193_ac hm hi) (fun i hi y => hA ⟨i, by omega, by omega, y⟩)
  · rw [hd.2.2.1]; omega
  · rw [hd.2.1]; omega
  · rw [hd.2.2.2.2.2.2.1]; omega
theorem wx_core {m m1 m2 : Mm} {W1 W2 : List Nat} {n h : Nat} {a : Int} (hx : Ext m) (r : WX m) (hn : m 193 8 = (n : Int)) (hh : h < 12) (ha : 1 ≤ a ∧ a ≤ 16) (e1 : (¬ m 23 h = 0 → m1 = m) ∧ (m 23 h = 0 → ActU m m1 n h a)) (f1 : Fr W1 m m1) (w1 : (W1.all (fun c => decide (c < 1000 * 4 ∨ 1000 * 13 ≤ c)) && !W1.contains 91999 && nK_ W1) = true) (e2 : ActR (m1 193) (m2 193) h a) (f2 : Fr W2 m1 m2) (w2 : (W2.all (fun c => decide (c < 1000 * 4 ∨ 1000 * 13 ≤ c)) && W2.all (fun c => decide (c < 1000 * 22 ∨ 1000 * 25 ≤ c)) && nK_ W2) = true) : WX m2 := by
  rw [Bool.and_eq_true, Bool.and_eq_true] at w1 w2
  obtain ⟨⟨p1, p2⟩, p3⟩ := w1
  obtain ⟨⟨q1, q2⟩, q3⟩ := w2
  have n1 : W1.contains 91999 = false := by revert p2; cases W1.contains 91999 <;> decide
  have e193 : m1 193 = m 193 := funext fun i => f1 193 i n1
  rw [e193] at e2
  have c4 : ∀ p i : Nat, 4 ≤ p → p ≤ 12 → i < 900 → m2 p i = m p i := fun p i a1 a2 a3 => (fr_4 f2 q1 p i a1 a2 a3).trans (fr_4 f1 p1 p i a1 a2 a3)
  have hK := KR_fr f2 q3 (KR_fr f1 p3 r.2.2)
  by_cases c : HasA (m 193) (h : Int)
  · have z : ¬ m 23 h = 0 := fun y => (isa_zero hx.1 r.2.1 hh).mp y c
    have em := e1.1 z
    subst em
    exact WX_eq r c4 (fr_22 f2 q2) (e2.1 c) hK
  · have z : m 23 h = 0 := (isa_zero hx.1 r.2.1 hh).mpr c
    obtain ⟨d1, d2, d3, d4⟩ := e2.2 c n hn
    refine ⟨WD_w (WD_eq r.1 c4) (fun i i1 i2 => d4 i i2 (by omega)), ?_, hK⟩
    exact IsA_eq (isa_add r.2.1 c hn d1 hh ha (e1.2 z) d2 d3 d4) (fr_22 f2 q2)
theorem wx_off {m m1 m2 : Mm} {W1 W2 : List Nat} {n : Nat} {t a v1 v2 : Int} (hm : Gam m) (hx : Ext m) (r : WX m) (hn : m 193 8 = (n : Int)) (ha : 1 ≤ a ∧ a ≤ 16) (e1 : (¬ (0 ≤ t ∧ t < m 4 2) → v1 = -2 ∧ m1 = m) ∧ ∀ h : Nat, t = (h : Int) → (h : Int) < m 4 2 → (¬ m 23 h = 0 → v1 = -5 ∧ m1 = m) ∧ (m 23 h = 0 → ActU m m1 n h a ∧ v1 = m1 39 h)) (f1 : Fr W1 m m1) (w1 : (W1.all (fun c => decide (c < 1000 * 4 ∨ 1000 * 13 ≤ c)) && !W1.contains 91999 && nK_ W1) = true) (e2 : (¬ (0 ≤ t ∧ t < m1 193 1) → v2 = -2 ∧ m2 = m1) ∧ ∀ h : Nat, t = (h : Int) → (h : Int) < m1 193 1 → (HasA (m1 193) (h : Int) → v2 = -5) ∧ ActR (m1 193) (m2 193) h a) (f2 : Fr W2 m1 m2) (w2 : (W2.all (fun c => decide (c < 1000 * 4 ∨ 1000 * 13 ≤ c)) && W2.all (fun c => decide (c < 1000 * 22 ∨ 1000 * 25 ≤ c)) && nK_ W2) = true) : WX m2 := by
  have n1 : W1.contains 91999 = false := by
    have w := w1
    rw [Bool.and_eq_true, Bool.and_eq_true] at w
    have p2 := w.1.2
    revert p2; cases W1.contains 91999 <;> decide
  have e193 : m1 193 1 = m 193 1 := f1 193 1 n1
  have e42 : m 4 2 = m 193 1 := r.1.1.2.2.1
  have b1 := gb_193_1 hm
  by_cases c : 0 ≤ t ∧ t < m 4 2
  · obtain ⟨h, hh⟩ : ∃ h : Nat, t = (h : Int) := ⟨t.toNat, by omega⟩
    have z1 := e1.2 h hh (by omega)
    have z2 := e2.2 h hh (by omega)
    exact wx_core hx r hn (h := h) (by omega) ha ⟨fun y => (z1.1 y).2, fun y => (z1.2 y).1⟩ f1 w1 z2.2 f2 w2
  · rw [(e2.1 (by omega)).2, (e1.1 c).2]; exact r
theorem wx_car {m m1 m2 : Mm} {W1 W2 : List Nat} {n : Nat} {t p v1 v2 : Int} (hm : Gam m) (hx : Ext m) (r : WX m) (hn : m 193 8 = (n : Int)) (e1 : (¬ ((0 ≤ t ∧ t < m 4 2) ∧ (0 ≤ p ∧ p < m 4 1)) → v1 = -2 ∧ m1 = m) ∧ ∀ h : Nat, t = (h : Int) → (h : Int) < m 4 2 → (0 ≤ p ∧ p < m 4 1) → (¬ m 23 h = 0 → v1 = -5 ∧ m1 = m) ∧ (m 23 h = 0 → ActU m m1 n h (p + 10) ∧ v1 = m1 39 h)) (f1 : Fr W1 m m1) (w1 : (W1.all (fun c => decide (c < 1000 * 4 ∨ 1000 * 13 ≤ c)) && !W1.contains 91999 && nK_ W1) = true) (e2 : (¬ ((0 ≤ t ∧ t < m1 193 1) ∧ (0 ≤ p ∧ p < m1 193 0)) → v2 = -2 ∧ m2 = m1) ∧ ∀ h : Nat, t = (h : Int) → (h : Int) < m1 193 1 → (0 ≤ p ∧ p < m1 193 0) → (HasA (m1 193) (h : Int) → v2 = -5) ∧ ActR (m1 193) (m2 193) h (p + 10)) (f2 : Fr W2 m1 m2) (w2 : (W2.all (fun c => decide (c < 1000 * 4 ∨ 1000 * 13 ≤ c)) && W2.all (fun c => decide (c < 1000 * 22 ∨ 1000 * 25 ≤ c)) && nK_ W2) = true) : WX m2 := by
  have n1 : W1.contains 91999 = false := by
    have w := w1
    rw [Bool.and_eq_true, Bool.and_eq_true] at w
    have p2 := w.1.2
    revert p2; cases W1.contains 91999 <;> decide
  have e193 : m1 193 1 = m 193 1 := f1 193 1 n1
  have e190 : m1 193 0 = m 193 0 := f1 193 0 n1
  have e42 : m 4 2 = m 193 1 := r.1.1.2.2.1
  have e41 : m 4 1 = m 193 0 := r.1.1.2.1
  have b1 := gb_193_1 hm
  have b0 := gb_193_0 hm
  by_cases c : (0 ≤ t ∧ t < m 4 2) ∧ (0 ≤ p ∧ p < m 4 1)
  · obtain ⟨h, hh⟩ : ∃ h : Nat, t = (h : Int) := ⟨t.toNat, by omega⟩
    have z1 := e1.2 h hh (by omega) (by omega)
    have z2 := e2.2 h hh (by omega) (by omega)
    exact wx_core hx r hn (h := h) (by omega) (by omega) ⟨fun y => (z1.1 y).2, fun y => (z1.2 y).1⟩ f1 w1 z2.2 f2 w2
  · rw [(e2.1 (by omega)).2, (e1.1 c).2]; exact r
theorem wx_undo {m m1 m2 : Mm} {W1 W2 : List Nat} {n h : Nat} {v1 v2 : Int} (hm : Gam m) (hx : Ext m) (r : WX m) (hn : m 193 8 = (n : Int)) (hn12 : n ≤ 12) (ho : 0 < n → m 24 (n - 1) = (h : Int)) (e1 : (¬ 0 < m 4 0 → v1 = -2 ∧ m1 = m) ∧ (0 < m 4 0 → n = 0 → v1 = -5 ∧ m1 = m) ∧ (0 < m 4 0 → ¬ n = 0 → v1 = ((n - 1 : Nat) : Int) ∧ ActD m m1 (n - 1) h)) (f1 : Fr W1 m m1) (w1 : (W1.all (fun c => decide (c < 1000 * 4 ∨ 1000 * 13 ≤ c)) && !W1.contains 91999 && nK_ W1) = true) (e2 : (¬ 0 < m1 193 9 → v2 = -2 ∧ m2 = m1) ∧ (0 < m1 193 9 → n = 0 → v2 = -5 ∧ m2 = m1) ∧ (0 < m1 193 9 → ¬ n = 0 → v2 = ((n - 1 : Nat) : Int) ∧ m2 193 8 = ((n - 1 : Nat) : Int) ∧ ∀ i : Nat, ¬ i = 8 → m2 193 i = m1 193 i)) (f2 : Fr W2 m1 m2) (w2 : (W2.all (fun c => decide (c < 1000 * 4 ∨ 1000 * 13 ≤ c)) && W2.all (fun c => decide (c < 1000 * 22 ∨ 1000 * 25 ≤ c)) && nK_ W2) = true) : v1 = v2 ∧ WX m2 := by
  rw [Bool.and_eq_true, Bool.and_eq_true] at w1 w2
  obtain ⟨⟨p1, p2⟩, p3⟩ := w1
  obtain ⟨⟨q1, q2⟩, q3⟩ := w2
  have n1 : W1.contains 91999 = false := by revert p2; cases W1.contains 91999 <;> decide
  have e193 : m1 193 = m 193 := funext fun i => f1 193 i n1
  rw [e193] at e2
  have e40 : m 4 0 = m 193 9 := r.1.1.1
  by_cases c : 0 < m 4 0
  · by_cases d : n = 0
    · rw [(e2.2.1 (by omega) d).2, (e1.2.1 c d).2, (e2.2.1 (by omega) d).1, (e1.2.1 c d).1]; exact ⟨rfl, r⟩
    · obtain ⟨x1, x2⟩ := e1.2.2 c d
      obtain ⟨y1, y2, y3⟩ := e2.2.2 (by omega) d
      refine ⟨x1.trans y1.symm, ?_, ?_, KR_fr f2 q3 (KR_fr f1 p3 r.2.2)⟩
      · exact WD_w (WD_eq r.1 (fun p i a1 a2 a3 => (fr_4 f2 q1 p i a1 a2 a3).trans (fr_4 f1 p1 p i a1 a2 a3))) (fun i _ i2 => y3 i i2)
      · refine IsA_eq (isa_drop (n := n - 1) (h := h) hx.1 r.2.1 (by omega) (by omega) ?_ x2 y2 y3) (fr_22 f2 q2)
        rw [← r.2.1.2.1 (n - 1) (by omega) (by omega)]
        exact ho (by omega)
  · rw [(e2.1 (by omega)).2, (e1.1 c).2, (e2.1 (by omega)).1, (e1.1 c).1]; exact ⟨rfl, r⟩
theorem wx_anew {m m1 m2 : Mm} {W1 W2 : List Nat} {n : Nat} {v1 v2 : Int} (r : WX m) (e1 : (¬ 0 < m 4 0 → v1 = -2 ∧ m1 = m) ∧ (0 < m 4 0 → v1 = (n : Int) ∧ m1 22 2 = 0 ∧ ∀ k : Nat, k < 12 → m1 23 k = 0)) (f1 : Fr W1 m m1) (w1 : (W1.all (fun c => decide (c < 1000 * 4 ∨ 1000 * 13 ≤ c)) && !W1.contains 91999 && nK_ W1) = true) (e2 : (¬ 0 < m1 193 9 → v2 = -2 ∧ m2 = m1) ∧ (0 < m1 193 9 → v2 = (n : Int) ∧ m2 193 8 = 0 ∧ ∀ i : Nat, ¬ i = 8 → m2 193 i = m1 193 i)) (f2 : Fr W2 m1 m2) (w2 : (W2.all (fun c => decide (c < 1000 * 4 ∨ 1000 * 13 ≤ c)) && W2.all (fun c => decide (c < 1000 * 22 ∨ 1000 * 25 ≤ c)) && nK_ W2) = true) : v1 = v2 ∧ WX m2 := by
  rw [Bool.and_eq_true, Bool.and_eq_true] at w1 w2
  obtain ⟨⟨p1, p2⟩, p3⟩ := w1
  obtain ⟨⟨q1, q2⟩, q3⟩ := w2
  have n1 : W1.contains 91999 = false := by revert p2; cases W1.contains 91999 <;> decide
  have e193 : m1 193 = m 193 := funext fun i => f1 193 i n1
  rw [e193] at e2
  have e40 : m 4 0 = m 193 9 := r.1.1.1
  by_cases c : 0 < m 4 0
  · obtain ⟨x1, x2, x3⟩ := e1.2 c
    obtain ⟨y1, y2, y3⟩ := e2.2 (by omega)
    refine ⟨x1.trans y1.symm, ?_, ?_, KR_fr f2 q3 (KR_fr f1 p3 r.2.2)⟩
    · exact WD_w (WD_eq r.1 (fun p i a1 a2 a3 => (fr_4 f2 q1 p i a1 a2 a3).trans (fr_4 f1 p1 p i a1 a2 a3))) (fun i _ i2 => y3 i i2)
    · exact isa_none ((fr_22 f2 q2 22 2 (by decide) (by decide) (by decide)).trans x2) (fun k hk => (fr_22 f2 q2 23 k (by decide) (by decide) (by omega)).trans (x3 k hk)) y2
  · rw [(e2.1 (by omega)).2, (e1.1 c).2, (e2.1 (by omega)).1, (e1.1 c).1]; exact ⟨rfl, r⟩
theorem wx_grow {m m1 m2 : Mm} {W1 W2 : List Nat} {n : Nat} {a b v1 v2 : Int} (hm : Gam m) (r : WX m) (e1 : (¬ ((0 ≤ a ∧ a < m 4 6) ∧ 0 ≤ b ∧ b < 10) → v1 = -2 ∧ m1 = m) ∧ (((0 ≤ a ∧ a < m 4 6) ∧ 0 ≤ b ∧ b < 10) → 0 < n → v1 = -5 ∧ m1 = m) ∧ (∀ i : Nat, a = (i : Int) → ((0 ≤ a ∧ a < m 4 6) ∧ 0 ≤ b ∧ b < 10) → n = 0 → v1 = m 6 i ∧ ∀ k : Nat, k < 5 → m1 6 k = nu_up m 6 i b 6 k)) (f1 : Fr W1 m m1) (w1 : (W1.all (fun c => decide (c < 4000 ∨ 13000 ≤ c ∨ c = 6999)) && W1.all (fun c => decide (c < 1000 * 22 ∨ 1000 * 25 ≤ c)) && !W1.contains 91999 && nK_ W1) = true) (e2 : (¬ ((0 ≤ a ∧ a < m1 193 5) ∧ 0 ≤ b ∧ b < 10) → v2 = -2 ∧ m2 = m1) ∧ (((0 ≤ a ∧ a < m1 193 5) ∧ 0 ≤ b ∧ b < 10) → 0 < n → v2 = -5 ∧ m2 = m1) ∧ (∀ i : Nat, a = (i : Int) → ((0 ≤ a ∧ a < m1 193 5) ∧ 0 ≤ b ∧ b < 10) → n = 0 → v2 = m1 193 (32 + 2 * i) ∧ ∀ k : Nat, m2 193 k = nu_up m1 193 (32 + 2 * i) b 193 k)) (f2 : Fr W2 m1 m2) (w2 : (W2.all (fun c => decide (c < 1000 * 4 ∨ 1000 * 13 ≤ c)) && W2.all (fun c => decide (c < 1000 * 22 ∨ 1000 * 25 ≤ c)) && nK_ W2) = true) : v1 = v2 ∧ WX m2 := by
  rw [Bool.and_eq_true, Bool.and_eq_true] at w2
  rw [Bool.and_eq_true, Bool.and_eq_true, Bool.and_eq_true] at w1
  obtain ⟨⟨⟨p0, p1⟩, p2⟩, p3⟩ := w1
  obtain ⟨⟨q1, q2⟩, q3⟩ := w2
  have n1 : W1.contains 91999 = false := by revert p2; cases W1.contains 91999 <;> decide
  have e193 : m1 193 = m 193 := funext fun i => f1 193 i n1
  rw [e193] at e2
  have e46 : m 4 6 = m 193 5 := r.1.1.2.2.2.2.2.2.1
  have b5 := gb_193_5 hm
  by_cases c : (0 ≤ a ∧ a < m 4 6) ∧ 0 ≤ b ∧ b < 10
  · by_cases d : n = 0
    · obtain ⟨i, hi⟩ : ∃ i : Nat, a = (i : Int) := ⟨a.toNat, by omega⟩
      obtain ⟨x1, x2⟩ := e1.2.2 i hi c d
      obtain ⟨y1, y2⟩ := e2.2.2 i hi (by omega) d
      have hi5 : i < 5 := by omega
      have ev : m 6 i = m 193 (32 + 2 * i) := (r.1.1.2.2.2.2.2.2.2.2.2.2.1 i hi5 (by omega)).2
      -- cells of the isle but the fruit
      have c1 : ∀ p j : Nat, 4 ≤ p → p ≤ 12 → ¬ p = 6 → j < 900 → m2 p j = m p j := fun p j a1 a2 a3 a4 => by
        refine (fr_4 f2 q1 p j a1 a2 a4).trans (f1 p j ?_)
        cases e : W1.contains (tyO p * 1000 + (if (tyK (tyO p)).1 < 100 then j else 999)) with
        | false => rfl
        | true =>
          exfalso
          have h3 := of_decide_eq_true (List.all_eq_true.mp p0 _ (List.contains_iff_mem.mp e))
          have h4 : tyO p = p := ty_lo p (by omega)
          rw [h4] at h3
          by_cases z : (tyK p).1 < 100
          · rw [if_pos z] at h3; omega
          · rw [if_neg z] at h3; omega
      have c6 : ∀ k : Nat, k < 5 → m2 6 k = nu_up m 6 i b 6 k := fun k hk => (fr_4 f2 q1 6 k (by decide) (by decide) (by omega)).trans (x2 k hk)
      have ag : ∀ j : Nat, ¬ j = 32 + 2 * i → m2 193 j = m 193 j := fun j hj => (y2 j).trans ((nu_ne hj).trans (congrFun e193 j))
      have ai : m2 193 (32 + 2 * i) = b := (y2 _).trans nu_at
      refine ⟨x1.trans (ev.trans y1.symm), ⟨?_, WB_eq r.1.2.1 (fun j hj => ag j (by omega)), ?_, ?_⟩, ?_, KR_fr f2 q3 (KR_fr f1 p3 r.2.2)⟩
      · obtain ⟨a0, a1, a2, a3, a4, a5, a6, a7, a8, a9, b1, b2, b3, b4⟩ := r.1.1
        have z4 : ∀ f : Nat, f < 10 → m2 4 f = m 4 f := fun f hf => c1 4 f (by decide) (by decide) (by decide) (by omega)
        refine ⟨(z4 0 (by decide)).trans (a0.trans (ag 9 (by omega)).symm), (z4 1 (by decide)).trans (a1.trans (ag 0 (by omega)).symm), (z4 2 (by decide)).trans (a2.trans (ag 1 (by omega)).symm), (z4 3 (by decide)).trans (a3.trans (ag 2 (by omega)).symm), (z4 4 (by decide)).trans (a4.trans (ag 3 (by omega)).symm), (z4 5 (by decide)).trans (a5.trans (ag 4 (by omega)).symm), (z4 6 (by decide)).trans (a6.trans (ag 5 (by omega)).symm), (z4 7 (by decide)).trans (a7.trans (ag 6 (by omega)).symm), (z4 8 (by decide)).trans (a8.trans (ag 7 (by omega)).symm), (z4 9 (by decide)).trans (a9.trans (ag 10 (by omega)).symm), fun t t1 t2 => ?_, fun t t1 t2 => ?_, fun t t1 t2 => ?_, BS_eq b4 (fun p hp => c1 11 p (by decide) (by decide) (by decide) (by omega)) (fun j hj => ag j (by omega))⟩
        · rw [ag 5 (by omega)] at t2
          obtain ⟨g1, g2⟩ := b1 t t1 t2
          refine ⟨?_, ?_⟩
          · rw [ag (31 + 2 * t) (by omega)]
            exact (c1 5 t (by decide) (by decide) (by decide) (by omega)).trans g1
          · refine (c6 t t1).trans ?_
            by_cases e : t = i
            · rw [e, nu_at, ai]
            · rw [nu_ne e, ag (32 + 2 * t) (by omega)]; exact g2
        · rw [ag 6 (by omega)] at t2
          obtain ⟨g1, g2⟩ := b2 t t1 t2
          rw [ag (41 + 2 * t) (by omega), ag (42 + 2 * t) (by omega)]
          exact ⟨(c1 7 t (by decide) (by decide) (by decide) (by omega)).trans g1, (c1 8 t (by decide) (by decide) (by decide) (by omega)).trans g2⟩
        · rw [ag 7 (by omega)] at t2
          obtain ⟨g1, g2⟩ := b3 t t1 t2
          rw [ag (47 + 2 * t) (by omega), ag (48 + 2 * t) (by omega)]
          exact ⟨(c1 9 t (by decide) (by decide) (by decide) (by omega)).trans g1, (c1 10 t (by decide) (by decide) (by decide) (by omega)).trans g2⟩
      · have hw := isw_cp (m1 := m2) (o := 4) r.1.2.1 r.1.2.2.1 (fun k hk => c1 12 k (by decide) (by decide) (by decide) (by omega))
        intro f hf p q hp hq
        rw [show adjW (m2 193) = adjW (m 193) from funext fun x => funext fun y => propext (adj_eq (fun j hj => ag j (by omega)) x y), ag 0 (by omega)] at hf
        rw [ag 0 (by omega)] at hp hq
        exact hw f hf p q hp hq
      · obtain ⟨u1, u2, u3⟩ := r.1.2.2.2
        refine ⟨fun t t1 t2 => ?_, fun t t1 t2 => ?_, fun t t1 t2 => ?_⟩
        · rw [ag 5 (by omega)] at t2
          rw [ag 0 (by omega), ag (31 + 2 * t) (by omega)]; exact u1 t t1 t2
        · rw [ag 6 (by omega)] at t2
          rw [ag 0 (by omega), ag (41 + 2 * t) (by omega)]; exact u2 t t1 t2
        · rw [ag 7 (by omega)] at t2
          rw [ag 0 (by omega), ag (47 + 2 * t) (by omega), ag (48 + 2 * t) (by omega)]; exact u3 t t1 t2
      · exact IsA_w (IsA_eq r.2.1 (fun p j a1 a2 a3 => (fr_22 f2 q2 p j a1 a2 a3).trans (fr_22 f1 p1 p j a1 a2 a3))) (ag 8 (by omega)) (fun j hj => ag (57 + j) (by omega))
    · rw [(e2.2.1 (by omega) (by omega)).2, (e1.2.1 c (by omega)).2, (e2.2.1 (by omega) (by omega)).1, (e1.2.1 c (by omega)).1]; exact ⟨rfl, r⟩
  · rw [(e2.1 (by omega)).2, (e1.1 c).2, (e2.1 (by omega)).1, (e1.1 c).1]; exact ⟨rfl, r⟩
/-- the number of acts is not told by a text -/
def P8 (r : PR) : Prop := ∀ g, r = .ok g → g.2 8 = 0
def V8 (r : PV) : Prop := ∀ g, r = .ok g → g.2.2 8 = 0
theorem p8_bind {r : PR} {f : Nat × Wd → PR} (h : P8 r) (hf : ∀ g, g.2 8 = 0 → P8 (f g)) : P8 (r.bind f) := by
  cases r with
  | error e => intro g e2; cases e2
  | ok g => exact hf g (h g rfl)
theorem p8_bindV {r : PR} {f : Nat × Wd → PV} (h : P8 r) (hf : ∀ g, g.2 8 = 0 → V8 (f g)) : V8 (r.bind f) := by
  cases r with
  | error e => intro g e2; cases e2
  | ok g => exact hf g (h g rfl)
theorem v8_bind {r : PV} {f : Int × Nat × Wd → PR} (h : V8 r) (hf : ∀ g, g.2.2 8 = 0 → P8 (f g)) : P8 (r.bind f) := by
  cases r with
  | error e => intro g e2; cases e2
  | ok g => exact hf g (h g rfl)
theorem p8_ok {q : Nat} {w : Wd} (h : w 8 = 0) : P8 (.ok (q, w)) := fun g e => by cases e; exact h
theorem p8_err {e : Int × Int} : P8 (.error e) := fun g e2 => by cases e2
theorem v8_ok {x : Int} {q : Nat} {w : Wd} (h : w 8 = 0) : V8 (.ok (x, q, w)) := fun g e => by cases e; exact h
theorem v8_err {e : Int × Int} : V8 (.error e) := fun g e2 => by cases e2
theorem up8 {w : Wd} {i : Nat} {x : Int} (h : w 8 = 0) (hi : ¬ i = 8) : upw w i x 8 = 0 := by
  show (if 8 = i then x else w 8) = 0
  rw [if_neg (fun z => hi z.symm)]; exact h
theorem p8_need {X : Nat → Int} {q : Nat} {r : PR} (h : P8 r) : P8 (pNeed X q r) := p8_bind h (fun g hg => by
  split
  · exact p8_ok hg
  · exact p8_err)
theorem v8_num {X : Nat → Int} {lo hi : Int} {r : PR} (h : P8 r) : V8 (pNum X lo hi r) := p8_bindV h (fun g hg => by
  split
  · exact v8_err
  · split
    · exact v8_ok hg
    · exact v8_err)
theorem v8_pl {X : Nat → Int} {r : PR} (h : P8 r) : V8 (pPl X r) := p8_bindV h (fun g hg => v8_num (fun g2 e => by cases e; exact hg))
theorem p8_set {i : Nat} {r : PV} (h : V8 r) (hi : ¬ i = 8) : P8 (pSet i r) := v8_bind h (fun g hg => p8_ok (up8 hg hi))
theorem p8_next {X : Nat → Int} {p : Nat} {w : Wd} (h : w 8 = 0) : P8 (pNext X p w) := by
  have h0 : P8 (.ok (nE X p, w)) := p8_ok h
  have at_ : ∀ k many q lo hi c, 31 ≤ k → ¬ many = 8 → P8 (pAt X k many q lo hi c (.ok (nE X p, w))) := fun k many q lo hi c hk hm => p8_bind (p8_set (v8_num (p8_need (p8_set (v8_pl (p8_need h0)) (by omega)))) (by omega)) (fun g hg => p8_ok (up8 hg hm))
  unfold pNext
  split
  · split
    · exact p8_err
    · exact p8_bind (p8_set (v8_pl (p8_bind (p8_need (p8_set (v8_pl h0) (by omega))) (fun g hg => by
        split
        · exact p8_err
        · exact fun g2 e => by cases e; exact hg))) (by omega)) (fun g hg => p8_ok (up8 hg (by decide)))
  · split
    · split
      · exact p8_err
      · exact at_ _ _ _ _ _ _ (by omega) (by decide)
    · split
      · split
        · exact p8_err
        · exact at_ _ _ _ _ _ _ (by omega) (by decide)
      · split
        · split
          · exact p8_err
          · exact at_ _ _ _ _ _ _ (by omega) (by decide)
        · split
          · exact v8_bind (v8_pl (p8_need h0)) (fun g hg => p8_ok (up8 hg (by decide)))
          · exact p8_err
theorem p8_line {X : Nat → Int} {p : Nat} {w : Wd} (h : w 8 = 0) : P8 (pLine X p w) := by
  refine p8_bind (r := (if w 9 = 0 then pFirst X (.ok (p, w)) else pNext X p w)) ?_ (fun g hg => ?_)
  · split
    · exact p8_set (v8_num (p8_need (p8_set (v8_num (p8_need (p8_set (v8_num (p8_need (p8_set (v8_num (p8_need (p8_need (p8_ok h)))) (by decide)))) (by decide)))) (by decide)))) (by decide)
    · exact p8_next h
  · split
    · exact p8_ok (up8 hg (by decide))
    · exact p8_err
theorem pall_8 {X : Nat → Int} : ∀ (N p : Nat) (w w' : Wd), w 8 = 0 → pAll X N p w = .ok w' → w' 8 = 0 := by
  intro N
  induction N with
  | zero => intro p w w' h e; cases e; exact h
  | succ N ih =>
    intro p w w' h e
    unfold pAll at e
    by_cases c : nK X p = 0
    · rw [if_pos c] at e; cases e; exact h
    · rw [if_neg c] at e
      cases d : pLine X p w with
      | error x => rw [d] at e; cases e
      | ok g =>
        rw [d] at e
        exact ih g.1 g.2 w' (p8_line h g d) e
theorem wx_isle {m m1 m2 : Mm} {X : Nat → Int} {v1 v2 : Int} {W1 W2 : List Nat} (r : WX m) (h1 : IslQ m m1 v1 (pAll X 802 0 (fun _ => 0))) (h2 : IslR m1 m2 v2 (pAll X 802 0 (fun _ => 0))) (f1 : Fr W1 m m1) (w1 : (!W1.contains 91999 && nK_ W1) = true) (f2 : Fr W2 m1 m2) (w2 : (W2.all (fun c => decide (c < 1000 * 4 ∨ 1000 * 13 ≤ c)) && W2.all (fun c => decide (c < 1000 * 22 ∨ 1000 * 25 ≤ c)) && nK_ W2) = true) : WX m2 := by
  rw [Bool.and_eq_true] at w1
  rw [Bool.and_eq_true, Bool.and_eq_true] at w2
  obtain ⟨p2, p3⟩ := w1
  obtain ⟨⟨q1, q2⟩, q3⟩ := w2
  have n1 : W1.contains 91999 = false := by revert p2; cases W1.contains 91999 <;> decide
  have hK := KR_fr f2 q3 (KR_fr f1 p3 r.2.2)
  have h8 : ∀ w, pAll X 802 0 (fun _ => 0) = .ok w → w 8 = 0 ∧ WP w := fun w e => ⟨pall_8 802 0 _ w rfl e, (pall_w 802 0 _ w ⟨WP_0 rfl rfl rfl, ⟨by decide, by decide⟩, ⟨by decide, by decide⟩, ⟨by decide, by decide⟩, ⟨by decide, by decide, by decide⟩, fun _ => ⟨rfl, rfl, rfl⟩⟩ e).1⟩
  generalize pAll X 802 0 (fun _ => 0) = R at h1 h2 h8
  cases R with
  | error e =>
    obtain ⟨-, -, -, g1⟩ := h1
    obtain ⟨-, -, -, g2⟩ := h2
    exact WX_eq r (fun p i a1 a2 a3 => (fr_4 f2 q1 p i a1 a2 a3).trans (fr_4 g1 (by decide) p i a1 a2 a3)) (fun p i a1 a2 a3 => (fr_22 f2 q2 p i a1 a2 a3).trans (fr_22 g1 (by decide) p i a1 a2 a3)) (fun i => (g2 i).trans (f1 193 i n1)) hK
  | ok w =>
    obtain ⟨-, -, -, g1, g2, g3, g4, g5⟩ := h1
    obtain ⟨-, -, -, k1⟩ := h2
    refine ⟨WD_w (WD_eq ⟨g1, g3, g2, (h8 w rfl).2⟩ (fr_4 f2 q1)) (fun i i1 _ => k1 i (by omega)), isa_none ((fr_22 f2 q2 22 2 (by decide) (by decide) (by decide)).trans g5) (fun k hk => (fr_22 f2 q2 23 k (by decide) (by decide) (by omega)).trans (g4 k hk)) ((k1 8 (by decide)).trans (h8 w rfl).1), hK⟩
theorem or_8b : ∀ c : Nat, c < 8 → ∀ i : Nat, i < 3 → ∃ e : Nat, e < 8 ∧ ior (c : Int) (ishl 1 (i : Int)) = (e : Int) ∧ ∀ k : Nat, k < 3 → e / 2 ^ k % 2 = if k = i then 1 else c / 2 ^ k % 2 := by
  have h : ∀ c : Nat, c < 8 → ∀ i : Nat, i < 3 → (if c / 2 ^ i % 2 = 1 then c else c + 2 ^ i) < 8 ∧ ior (c : Int) (ishl 1 (i : Int)) = ((if c / 2 ^ i % 2 = 1 then c else c + 2 ^ i : Nat) : Int) ∧ ∀ k : Nat, k < 3 → (if c / 2 ^ i % 2 = 1 then c else c + 2 ^ i) / 2 ^ k % 2 = if k = i then 1 else c / 2 ^ k % 2 := by decide +kernel
  exact fun c hc i hi => ⟨_, h c hc i hi⟩
theorem bt_8b : ∀ c : Nat, c < 8 → ∀ i : Nat, i < 3 → iand (ishr (c : Int) (i : Int)) 1 = ((c / 2 ^ i % 2 : Nat) : Int) := by decide +kernel
theorem wx_image {m m1 m2 : Mm} {W2 : List Nat} {a v1 v2 : Int} (r : WX m) (e1 : (¬ (0 ≤ a ∧ a < 3) → v1 = -2 ∧ m1 = m) ∧ ∀ i : Nat, i < 3 → a = (i : Int) → v1 = 0 ∧ CpI m m1 4 (156 + 12 * i) ∧ CpA m m1 22 (165 + 12 * i) ∧ m1 1 14 = ior (m 1 14) (ishl 1 (i : Int)) ∧ ∀ p j : Nat, ¬ (156 + 12 * i ≤ p ∧ p ≤ 167 + 12 * i) → ¬ (p = 1 ∧ j = 14) → m1 p j = m p j) (e2 : (¬ (0 ≤ a ∧ a < 3) → v2 = -2 ∧ m2 = m1) ∧ ∀ i : Nat, i < 3 → a = (i : Int) → v2 = 0 ∧ (∀ j : Nat, j < 69 → m2 194 (69 * i + j) = m1 193 j) ∧ (∀ j : Nat, (j < 69 * i ∨ 69 * i + 69 ≤ j) → m2 194 j = m1 194 j) ∧ ∀ k : Nat, m2 195 k = if k = i then 1 else m1 195 k) (f2 : Fr W2 m1 m2) (w2 : (W2.all (fun c => decide (c < 1000 * 4 ∨ 1000 * 13 ≤ c)) && W2.all (fun c => decide (c < 1000 * 22 ∨ 1000 * 25 ≤ c)) && !W2.contains 91999 && W2.all (fun c => decide (c < 1000 * 78 ∨ 1000 * 90 ≤ c)) && !W2.contains 1014) = true) : WX m2 := by
  rw [Bool.and_eq_true, Bool.and_eq_true, Bool.and_eq_true, Bool.and_eq_true] at w2
  obtain ⟨⟨⟨⟨q1, q2⟩, q3⟩, q4⟩, q5⟩ := w2
  have n3 : W2.contains 91999 = false := by revert q3; cases W2.contains 91999 <;> decide
  have n5 : W2.contains 1014 = false := by revert q5; cases W2.contains 1014 <;> decide
  by_cases z : 0 ≤ a ∧ a < 3
  · obtain ⟨i, hi⟩ : ∃ i : Nat, a = (i : Int) := ⟨a.toNat, by omega⟩
    have hi3 : i < 3 := by omega
    obtain ⟨-, x1, x2, x3, x4⟩ := e1.2 i hi3 hi
    obtain ⟨-, y1, y2, y3⟩ := e2.2 i hi3 hi
    have c193 : ∀ j : Nat, m2 193 j = m 193 j := fun j => (f2 193 j n3).trans (x4 193 j (by omega) (by omega))
    refine WX_eq r (fun p j a1 a2 a3 => (fr_4 f2 q1 p j a1 a2 a3).trans (x4 p j (by omega) (by omega))) (fun p j a1 a2 a3 => (fr_22 f2 q2 p j a1 a2 a3).trans (x4 p j (by omega) (by omega))) c193 ?_
    obtain ⟨c, c1, c2, c3⟩ := r.2.2
    rw [c2] at x3
    obtain ⟨e, d1, d2, d3⟩ := or_8b c c1 i hi3
    refine ⟨e, d1, (f2 1 14 n5).trans (x3.trans d2), fun k hk => ⟨?_, fun y => ?_⟩⟩
    · rw [y3 k, d3 k hk]
      by_cases g : k = i
      · rw [if_pos g, if_pos g]; rfl
      · rw [if_neg g, if_neg g]; exact (x4 195 k (by omega) (by omega)).trans (c3 k hk).1
    · by_cases g : k = i
      · subst g
        have es : ∀ j : Nat, j < 69 → sl m2 k j = m 193 j := fun j hj => (y1 j hj).trans (x4 193 j (by omega) (by omega))
        refine ⟨WD_w (WD_eq (WD_cp r.1 x1) (fun p j a1 a2 a3 => fr_k f2 q4 p j (by omega) (by omega) a3)) (fun j j1 _ => es j (by omega)), IsA_w (IsA_eq (IsA_cp r.2.1 x2) (fun p j a1 a2 a3 => fr_k f2 q4 p j (by omega) (by omega) a3)) (es 8 (by decide)) (fun j hj => es (57 + j) (by omega))⟩
      · rw [d3 k hk, if_neg g] at y
        obtain ⟨u1, u2⟩ := (c3 k hk).2 y
        have es : ∀ j : Nat, j < 69 → sl m2 k j = sl m k j := fun j hj => (y2 (69 * k + j) (by omega)).trans (x4 194 (69 * k + j) (by omega) (by omega))
        refine ⟨WD_w (WD_eq u1 (fun p j a1 a2 a3 => (fr_k f2 q4 p j (by omega) (by omega) a3).trans (x4 p j (by omega) (by omega)))) (fun j j1 _ => es j (by omega)), IsA_w (IsA_eq u2 (fun p j a1 a2 a3 => (fr_k f2 q4 p j (by omega) (by omega) a3).trans (x4 p j (by omega) (by omega)))) (es 8 (by decide)) (fun j hj => es (57 + j) (by omega))⟩
  · rw [(e2.1 z).2, (e1.1 z).2]; exact r
theorem wx_back {m m1 m2 : Mm} {W1 W2 : List Nat} {a v1 v2 : Int} (r : WX m) (e1 : (¬ (0 ≤ a ∧ a < 3) → v1 = -2 ∧ m1 = m) ∧ ∀ i : Nat, i < 3 → a = (i : Int) → (¬ iand (ishr (m 1 14) (i : Int)) 1 = 1 → v1 = -6 ∧ m1 = m) ∧ (iand (ishr (m 1 14) (i : Int)) 1 = 1 → v1 = 0 ∧ CpI m m1 (156 + 12 * i) 4 ∧ CpA m m1 (165 + 12 * i) 22)) (f1 : Fr W1 m m1) (w1 : (!W1.contains 91999 && nK_ W1) = true) (e2 : (¬ (0 ≤ a ∧ a < 3) → v2 = -2 ∧ m2 = m1) ∧ ∀ i : Nat, i < 3 → a = (i : Int) → (m1 195 i = 0 → v2 = -6 ∧ m2 = m1) ∧ (¬ m1 195 i = 0 → v2 = 0 ∧ ∀ j : Nat, j < 69 → m2 193 j = m1 194 (69 * i + j))) (f2 : Fr W2 m1 m2) (w2 : (W2.all (fun c => decide (c < 1000 * 4 ∨ 1000 * 13 ≤ c)) && W2.all (fun c => decide (c < 1000 * 22 ∨ 1000 * 25 ≤ c)) && nK_ W2) = true) : WX m2 := by
  rw [Bool.and_eq_true] at w1
  rw [Bool.and_eq_true, Bool.and_eq_true] at w2
  obtain ⟨p2, p3⟩ := w1
  obtain ⟨⟨q1, q2⟩, q3⟩ := w2
  have hK := KR_fr f2 q3 (KR_fr f1 p3 r.2.2)
  have n4 : W1.contains 93999 = false := by
    have w := p3
    unfold nK_ at w
    rw [Bool.and_eq_true] at w
    have z := w.2
    revert z; cases W1.contains 93999 <;> decide
  have n3 : W1.contains 92999 = false := by
    have w := p3
    unfold nK_ at w
    rw [Bool.and_eq_true, Bool.and_eq_true] at w
    have z := w.1.2
    revert z; cases W1.contains 92999 <;> decide
  by_cases z : 0 ≤ a ∧ a < 3
  · obtain ⟨i, hi⟩ : ∃ i : Nat, a = (i : Int) := ⟨a.toNat, by omega⟩
    have hi3 : i < 3 := by omega
    obtain ⟨c, c1, c2, c3⟩ := r.2.2
    have x := e1.2 i hi3 hi
    have y := e2.2 i hi3 hi
    rw [c2, bt_8b c c1 i hi3] at x
    rw [f1 195 i n4, (c3 i hi3).1] at y
    by_cases b : c / 2 ^ i % 2 = 1
    · obtain ⟨-, x1, x2⟩ := x.2 (by rw [b]; rfl)
      obtain ⟨-, y1⟩ := y.2 (by rw [b]; decide)
      obtain ⟨u1, u2⟩ := (c3 i hi3).2 b
      have es : ∀ j : Nat, j < 69 → m2 193 j = sl m i j := fun j hj => (y1 j hj).trans (f1 194 (69 * i + j) n3)
      exact ⟨WD_w (WD_eq (WD_cp u1 x1) (fr_4 f2 q1)) (fun j j1 _ => es j (by omega)), IsA_w (IsA_eq (IsA_cp u2 x2) (fr_22 f2 q2)) (es 8 (by decide)) (fun j hj => es (57 + j) (by omega)), hK⟩
    · have b0 : c / 2 ^ i % 2 = 0 := by omega
      rw [b0] at x y
      rw [(y.1 rfl).2, (x.1 (by decide)).2]; exact r
  · rw [(e2.1 z).2, (e1.1 z).2]; exact r
theorem wx_0 {m : Mm} (h4 : ∀ i : Nat, i < 10 → m 4 i = 0) (h11 : ∀ p : Nat, p < 7 → m 11 p = 0) (hw : ∀ i : Nat, i < 11 → m 193 i = 0) (h22 : m 22 2 = 0) (h23 : ∀ k : Nat, k < 12 → m 23 k = 0) (h1 : m 1 14 = 0) (h195 : ∀ k : Nat, k < 3 → m 195 k = 0) : WX m := by
  have w0 := hw 0 (by decide)
  have w4 := hw 4 (by decide)
  have w5 := hw 5 (by decide)
  have w6 := hw 6 (by decide)
  have w7 := hw 7 (by decide)
  have e : ∀ i j : Nat, i < 10 → j < 11 → m 4 i = m 193 j := fun i j hi hj => (h4 i hi).trans (hw j hj).symm
  refine ⟨⟨⟨e 0 9 (by decide) (by decide), e 1 0 (by decide) (by decide), e 2 1 (by decide) (by decide), e 3 2 (by decide) (by decide), e 4 3 (by decide) (by decide), e 5 4 (by decide) (by decide), e 6 5 (by decide) (by decide), e 7 6 (by decide) (by decide), e 8 7 (by decide) (by decide), e 9 10 (by decide) (by decide), fun t _ h => by omega, fun t _ h => by omega, fun t _ h => by omega, fun p hp => ⟨0, by decide, h11 p hp, fun q hq => ?_⟩⟩, ?_, fun d _ a b ha _ => by omega, WP_0 w5 w6 w7⟩, isa_none h22 h23 (hw 8 (by decide)), ⟨0, by decide, h1, fun k hk => ⟨?_, fun z => ?_⟩⟩⟩
  · constructor
    · intro z; rw [Nat.zero_div] at z; exact absurd z (by decide)
    · rintro ⟨k, k1, k2, -⟩; omega
  · exact ⟨by omega, by omega, by omega, by omega, by omega, fun k k1 k2 => by omega⟩
  · rw [h195 k hk, Nat.zero_div]; rfl
  · rw [Nat.zero_div] at z; exact absurd z (by decide)
theorem wa_last {m : Mm} {n : Nat} (hm : Gam m) (r : WX m) (hn : m 193 8 = (n : Int)) (h12 : n ≤ 12) : ∃ h : Nat, h < 12 ∧ (0 < n → m 24 (n - 1) = (h : Int)) := by
  by_cases c : n = 0
  · exact ⟨0, by decide, fun z => absurd c (by omega)⟩
  · have b := gb_193_ac hm (k := n - 1) (by omega)
    refine ⟨(m 193 (57 + (n - 1)) / 100).toNat, by omega, fun _ => ?_⟩
    rw [r.2.1.2.1 (n - 1) (by omega) (by omega)]
    omega
theorem q_two {a b v1 v2 s1 s2 : Int} {f g x : Nat → Int} {k N : Nat} (es : s1 = s2) (hN : s1 ≤ (N : Int)) (hc : ∀ t : Nat, t < N → (t : Int) < s2 → f t = x (k + 2 * t) ∧ g t = x (k + 1 + 2 * t)) (h1 : (¬ ((0 ≤ a ∧ a < s1) ∧ 0 ≤ b ∧ b < 2) → v1 = -2) ∧ (∀ i : Nat, a = (i : Int) → ((0 ≤ a ∧ a < s1) ∧ 0 ≤ b ∧ b < 2) → v1 = (if b = 0 then f i else g i))) (h2 : (¬ ((0 ≤ a ∧ a < s2) ∧ 0 ≤ b ∧ b < 2) → v2 = -2) ∧ (∀ i j : Nat, a = (i : Int) → b = (j : Int) → ((0 ≤ a ∧ a < s2) ∧ 0 ≤ b ∧ b < 2) → v2 = x (k + 2 * i + j))) : v1 = v2 := by
  by_cases c : (0 ≤ a ∧ a < s1) ∧ 0 ≤ b ∧ b < 2
  · obtain ⟨i, hi⟩ : ∃ i : Nat, a = (i : Int) := ⟨a.toNat, by omega⟩
    have z := h1.2 i hi c
    have y := hc i (by omega) (by omega)
    by_cases d : b = 0
    · rw [z, if_pos d, y.1, h2.2 i 0 hi d (by omega)]; rfl
    · rw [z, if_neg d, y.2, h2.2 i 1 hi (by omega) (by omega)]
      rw [show k + 1 + 2 * i = k + 2 * i + 1 by omega]
  · rw [h1.1 c, h2.1 (by omega)]
theorem q_5 {m m1 : Mm} {a b v1 v2 : Int} (r : WX m) (hn : m 4 6 ≤ 5) (e : ∀ i : Nat, m1 193 i = m 193 i) (h1 : (¬ ((0 ≤ a ∧ a < m 4 6) ∧ 0 ≤ b ∧ b < 2) → v1 = -2) ∧ (∀ i : Nat, a = (i : Int) → ((0 ≤ a ∧ a < m 4 6) ∧ 0 ≤ b ∧ b < 2) → v1 = (if b = 0 then m 5 i else m 6 i))) (h2 : (¬ ((0 ≤ a ∧ a < m1 193 5) ∧ 0 ≤ b ∧ b < 2) → v2 = -2) ∧ (∀ i j : Nat, a = (i : Int) → b = (j : Int) → ((0 ≤ a ∧ a < m1 193 5) ∧ 0 ≤ b ∧ b < 2) → v2 = m1 193 (31 + 2 * i + j))) : v1 = v2 := by
  rw [show m1 193 = m 193 from funext e] at h2
  exact q_two (N := 5) (k := 31) r.1.1.2.2.2.2.2.2.1 hn r.1.1.2.2.2.2.2.2.2.2.2.2.1 h1 h2
theorem q_6 {m m1 : Mm} {a b v1 v2 : Int} (r : WX m) (hn : m 4 7 ≤ 3) (e : ∀ i : Nat, m1 193 i = m 193 i) (h1 : (¬ ((0 ≤ a ∧ a < m 4 7) ∧ 0 ≤ b ∧ b < 2) → v1 = -2) ∧ (∀ i : Nat, a = (i : Int) → ((0 ≤ a ∧ a < m 4 7) ∧ 0 ≤ b ∧ b < 2) → v1 = (if b = 0 then m 7 i else m 8 i))) (h2 : (¬ ((0 ≤ a ∧ a < m1 193 6) ∧ 0 ≤ b ∧ b < 2) → v2 = -2) ∧ (∀ i j : Nat, a = (i : Int) → b = (j : Int) → ((0 ≤ a ∧ a < m1 193 6) ∧ 0 ≤ b ∧ b < 2) → v2 = m1 193 (41 + 2 * i + j))) : v1 = v2 := by
  rw [show m1 193 = m 193 from funext e] at h2
  exact q_two (N := 3) (k := 41) r.1.1.2.2.2.2.2.2.2.1 hn r.1.1.2.2.2.2.2.2.2.2.2.2.2.1 h1 h2
theorem q_7 {m m1 : Mm} {a b v1 v2 : Int} (r : WX m) (hn : m 4 8 ≤ 5) (e : ∀ i : Nat, m1 193 i = m 193 i) (h1 : (¬ ((0 ≤ a ∧ a < m 4 8) ∧ 0 ≤ b ∧ b < 2) → v1 = -2) ∧ (∀ i : Nat, a = (i : Int) → ((0 ≤ a ∧ a < m 4 8) ∧ 0 ≤ b ∧ b < 2) → v1 = (if b = 0 then m 9 i else m 10 i))) (h2 : (¬ ((0 ≤ a ∧ a < m1 193 7) ∧ 0 ≤ b ∧ b < 2) → v2 = -2) ∧ (∀ i j : Nat, a = (i : Int) → b = (j : Int) → ((0 ≤ a ∧ a < m1 193 7) ∧ 0 ≤ b ∧ b < 2) → v2 = m1 193 (47 + 2 * i + j))) : v1 = v2 := by
  rw [show m1 193 = m 193 from funext e] at h2
  exact q_two (N := 5) (k := 47) r.1.1.2.2.2.2.2.2.2.2.1 hn r.1.1.2.2.2.2.2.2.2.2.2.2.2.2.1 h1 h2
theorem q_8 {m m1 : Mm} {v1 v2 : Int} (r : WX m) (e : ∀ i : Nat, m1 193 i = m 193 i) (h1 : v1 = (if 0 < m 4 0 then m 4 9 else -2)) (h2 : v2 = (if 0 < m1 193 9 then m1 193 10 else -2)) : v1 = v2 := by
  rw [h1, h2, e 9, e 10, r.1.1.1, r.1.1.2.2.2.2.2.2.2.2.2.1]
theorem wa_sz {m : Mm} (hm : Gam m) (r : WX m) : m 4 6 ≤ 5 ∧ m 4 7 ≤ 3 ∧ m 4 8 ≤ 5 := by
  have b5 := gb_193_5 hm
  have b6 := gb_193_6 hm
  have b7 := gb_193_7 hm
  have hd := r.1.1
  refine ⟨?_, ?_, ?_⟩
  · rw [hd.2.2.2.2.2.2.1]; omega
  · rw [hd.2.2.2.2.2.2.2.1]; omega
  · rw [hd.2.2.2.2.2.2.2.2.1]; omega
