/-! an isle of no lines has nothing -/
def P9 (r : PR) : Prop := ∀ g, r = .ok g → 0 ≤ g.2 9
def V9 (r : PV) : Prop := ∀ g, r = .ok g → 0 ≤ g.2.2 9
theorem p9_bind {r : PR} {f : Nat × Wd → PR} (h : P9 r) (hf : ∀ g, 0 ≤ g.2 9 → P9 (f g)) : P9 (r.bind f) := by
  cases r with
  | error e => intro g e2; cases e2
  | ok g => exact hf g (h g rfl)
theorem p9_bindV {r : PR} {f : Nat × Wd → PV} (h : P9 r) (hf : ∀ g, 0 ≤ g.2 9 → V9 (f g)) : V9 (r.bind f) := by
  cases r with
  | error e => intro g e2; cases e2
  | ok g => exact hf g (h g rfl)
theorem v9_bind {r : PV} {f : Int × Nat × Wd → PR} (h : V9 r) (hf : ∀ g, 0 ≤ g.2.2 9 → P9 (f g)) : P9 (r.bind f) := by
  cases r with
  | error e => intro g e2; cases e2
  | ok g => exact hf g (h g rfl)
theorem p9_ok {q : Nat} {w : Wd} (h : 0 ≤ w 9) : P9 (.ok (q, w)) := fun g e => by cases e; exact h
theorem p9_err {e : Int × Int} : P9 (.error e) := fun g e2 => by cases e2
theorem v9_ok {x : Int} {q : Nat} {w : Wd} (h : 0 ≤ w 9) : V9 (.ok (x, q, w)) := fun g e => by cases e; exact h
theorem v9_err {e : Int × Int} : V9 (.error e) := fun g e2 => by cases e2
theorem up9 {w : Wd} {i : Nat} {x : Int} (h : 0 ≤ w 9) (hi : ¬ i = 9) : 0 ≤ upw w i x 9 := by
  show 0 ≤ (if 9 = i then x else w 9)
  rw [if_neg (fun z => hi z.symm)]; exact h
theorem p9_need {X : Nat → Int} {q : Nat} {r : PR} (h : P9 r) : P9 (pNeed X q r) := p9_bind h (fun g hg => by
  split
  · exact p9_ok hg
  · exact p9_err)
theorem v9_num {X : Nat → Int} {lo hi : Int} {r : PR} (h : P9 r) : V9 (pNum X lo hi r) := p9_bindV h (fun g hg => by
  split
  · exact v9_err
  · split
    · exact v9_ok hg
    · exact v9_err)
theorem v9_pl {X : Nat → Int} {r : PR} (h : P9 r) : V9 (pPl X r) := p9_bindV h (fun g hg => v9_num (fun g2 e => by cases e; exact hg))
theorem p9_set {i : Nat} {r : PV} (h : V9 r) (hi : ¬ i = 9) : P9 (pSet i r) := v9_bind h (fun g hg => p9_ok (up9 hg hi))
theorem p9_next {X : Nat → Int} {p : Nat} {w : Wd} (h : 0 ≤ w 9) : P9 (pNext X p w) := by
  have h0 : P9 (.ok (nE X p, w)) := p9_ok h
  have at_ : ∀ k many q lo hi c, 31 ≤ k → ¬ many = 9 → P9 (pAt X k many q lo hi c (.ok (nE X p, w))) := fun k many q lo hi c hk hm => p9_bind (p9_set (v9_num (p9_need (p9_set (v9_pl (p9_need h0)) (by omega)))) (by omega)) (fun g hg => p9_ok (up9 hg hm))
  unfold pNext
  split
  · split
    · exact p9_err
    · exact p9_bind (p9_set (v9_pl (p9_bind (p9_need (p9_set (v9_pl h0) (by omega))) (fun g hg => by
        split
        · exact p9_err
        · exact fun g2 e => by cases e; exact hg))) (by omega)) (fun g hg => p9_ok (up9 hg (by decide)))
  · split
    · split
      · exact p9_err
      · exact at_ _ _ _ _ _ _ (by omega) (by decide)
    · split
      · split
        · exact p9_err
        · exact at_ _ _ _ _ _ _ (by omega) (by decide)
      · split
        · split
          · exact p9_err
          · exact at_ _ _ _ _ _ _ (by omega) (by decide)
        · split
          · exact v9_bind (v9_pl (p9_need h0)) (fun g hg => p9_ok (up9 hg (by decide)))
          · exact p9_err
theorem p9_line {X : Nat → Int} {p : Nat} {w : Wd} (h : 0 ≤ w 9) : ∀ g, pLine X p w = .ok g → 0 < g.2 9 := by
  have h1 : P9 (if w 9 = 0 then pFirst X (.ok (p, w)) else pNext X p w) := by
    split
    · exact p9_set (v9_num (p9_need (p9_set (v9_num (p9_need (p9_set (v9_num (p9_need (p9_set (v9_num (p9_need (p9_need (p9_ok h)))) (by decide)))) (by decide)))) (by decide)))) (by decide)
    · exact p9_next h
  intro g e
  unfold pLine pSemi at e
  generalize (if w 9 = 0 then pFirst X (.ok (p, w)) else pNext X p w) = r at h1 e
  cases r with
  | error x => cases e
  | ok q =>
    have q9 := h1 q rfl
    have e2 : (if nK X q.1 = 3 then (.ok (nE X q.1, upw q.2 9 (q.2 9 + 1)) : PR) else .error (1, (nS X q.1 : Int))) = .ok g := e
    by_cases c : nK X q.1 = 3
    · rw [if_pos c] at e2
      cases e2
      show 0 < upw q.2 9 (q.2 9 + 1) 9
      rw [upw_at]; omega
    · rw [if_neg c] at e2; cases e2
/-- a world of no lines has nothing -/
def Zw (w : Nat → Int) : Prop := w 9 ≤ 0 → w 0 = 0 ∧ w 1 = 0 ∧ w 5 = 0 ∧ w 6 = 0 ∧ w 7 = 0
theorem pall_z {X : Nat → Int} : ∀ (N p : Nat) (w w' : Wd), 0 ≤ w 9 → Zw w → pAll X N p w = .ok w' → Zw w' := by
  intro N
  induction N with
  | zero => intro p w w' _ z e; cases e; exact z
  | succ N ih =>
    intro p w w' h z e
    unfold pAll at e
    by_cases c : nK X p = 0
    · rw [if_pos c] at e; cases e; exact z
    · rw [if_neg c] at e
      cases d : pLine X p w with
      | error x => rw [d] at e; cases e
      | ok g =>
        rw [d] at e
        have q := p9_line h g d
        exact ih g.1 g.2 w' (by omega) (fun y => absurd y (by omega)) e
/-- the cells that Zw looks at are the same -/
def KeyE (w w1 : Nat → Int) : Prop := w1 0 = w 0 ∧ w1 1 = w 1 ∧ w1 5 = w 5 ∧ w1 6 = w 6 ∧ w1 7 = w 7 ∧ w1 9 = w 9
theorem key_rf (w : Nat → Int) : KeyE w w := ⟨rfl, rfl, rfl, rfl, rfl, rfl⟩
theorem key_of {w w1 : Nat → Int} (e : ∀ i : Nat, i < 10 → ¬ i = 8 → w1 i = w i) : KeyE w w1 := ⟨e 0 (by decide) (by decide), e 1 (by decide) (by decide), e 5 (by decide) (by decide), e 6 (by decide) (by decide), e 7 (by decide) (by decide), e 9 (by decide) (by decide)⟩
theorem zw_e {w w1 : Nat → Int} (z : Zw w) (e : KeyE w w1) : Zw w1 := by
  obtain ⟨e0, e1, e5, e6, e7, e9⟩ := e
  intro h
  have y := z (by omega)
  exact ⟨by omega, by omega, by omega, by omega, by omega⟩
/-- no world of no lines has anything: now and in the images -/
def ZX (m : Mm) : Prop := Zw (m 193) ∧ ∀ k : Nat, k < 3 → Zw (sl m k)
theorem zx_e {m m1 : Mm} (z : ZX m) (e : KeyE (m 193) (m1 193)) (e4 : ∀ i : Nat, m1 194 i = m 194 i) : ZX m1 :=
  ⟨zw_e z.1 e, fun k hk => by rw [show sl m1 k = sl m k from funext fun i => e4 (69 * k + i)]; exact z.2 k hk⟩
theorem ZX_fr {W : List Nat} {m m1 : Mm} (f : Fr W m m1) (h : (!W.contains 91999 && !W.contains 92999) = true) (z : ZX m) : ZX m1 := by
  rw [Bool.and_eq_true] at h
  have n1 := ct_f h.1
  have n2 := ct_f h.2
  exact zx_e z (by rw [show m1 193 = m 193 from funext fun i => f 193 i n1]; exact key_rf _) (fun i => f 194 i n2)
theorem zx_2 {W1 W2 : List Nat} {m m1 m2 : Mm} (z : ZX m) (f1 : Fr W1 m m1) (h1 : (!W1.contains 91999 && !W1.contains 92999) = true) (f2 : Fr W2 m1 m2) (h2 : W2.contains 92999 = false) (e : KeyE (m1 193) (m2 193)) : ZX m2 := zx_e (ZX_fr f1 h1 z) e (fun i => f2 194 i h2)
theorem ke_act {w w1 : Nat → Int} {h : Nat} {a : Int} (h8 : 0 ≤ w 8) (e : ActR w w1 h a) : KeyE w w1 := by
  by_cases c : HasA w (h : Int)
  · exact key_of (fun i _ _ => e.1 c i)
  · obtain ⟨_, _, _, d⟩ := e.2 c (w 8).toNat (by omega)
    exact key_of (fun i x y => d i y (by omega))
theorem ke_off {m1 m2 : Mm} {t v2 a : Int} (g : Gam m1) (e2 : (¬ (0 ≤ t ∧ t < m1 193 1) → v2 = -2 ∧ m2 = m1) ∧ ∀ h : Nat, t = (h : Int) → (h : Int) < m1 193 1 → (HasA (m1 193) (h : Int) → v2 = -5) ∧ ActR (m1 193) (m2 193) h a) : KeyE (m1 193) (m2 193) := by
  have b8 := gb_193_8 g
  by_cases c : 0 ≤ t ∧ t < m1 193 1
  · exact ke_act b8.1 (e2.2 t.toNat (by omega) (by omega)).2
  · rw [(e2.1 c).2]; exact key_rf _
theorem ke_car {m1 m2 : Mm} {t p v2 a : Int} (g : Gam m1) (e2 : (¬ ((0 ≤ t ∧ t < m1 193 1) ∧ (0 ≤ p ∧ p < m1 193 0)) → v2 = -2 ∧ m2 = m1) ∧ ∀ h : Nat, t = (h : Int) → (h : Int) < m1 193 1 → (0 ≤ p ∧ p < m1 193 0) → (HasA (m1 193) (h : Int) → v2 = -5) ∧ ActR (m1 193) (m2 193) h a) : KeyE (m1 193) (m2 193) := by
  have b8 := gb_193_8 g
  by_cases c : (0 ≤ t ∧ t < m1 193 1) ∧ (0 ≤ p ∧ p < m1 193 0)
  · exact ke_act b8.1 (e2.2 t.toNat (by omega) (by omega) c.2).2
  · rw [(e2.1 c).2]; exact key_rf _
theorem ke_undo {m1 m2 : Mm} {n : Nat} {v2 x : Int} (e2 : (¬ 0 < m1 193 9 → v2 = -2 ∧ m2 = m1) ∧ (0 < m1 193 9 → n = 0 → v2 = -5 ∧ m2 = m1) ∧ (0 < m1 193 9 → ¬ n = 0 → v2 = x ∧ m2 193 8 = x ∧ ∀ i : Nat, ¬ i = 8 → m2 193 i = m1 193 i)) : KeyE (m1 193) (m2 193) := by
  by_cases c : 0 < m1 193 9
  · by_cases d : n = 0
    · rw [(e2.2.1 c d).2]; exact key_rf _
    · exact key_of (fun i _ y => (e2.2.2 c d).2.2 i y)
  · rw [(e2.1 c).2]; exact key_rf _
theorem ke_anew {m1 m2 : Mm} {v2 x : Int} (e2 : (¬ 0 < m1 193 9 → v2 = -2 ∧ m2 = m1) ∧ (0 < m1 193 9 → v2 = x ∧ m2 193 8 = 0 ∧ ∀ i : Nat, ¬ i = 8 → m2 193 i = m1 193 i)) : KeyE (m1 193) (m2 193) := by
  by_cases c : 0 < m1 193 9
  · exact key_of (fun i _ y => (e2.2 c).2.2 i y)
  · rw [(e2.1 c).2]; exact key_rf _
theorem ke_grow {m1 m2 : Mm} {n : Nat} {a b v2 : Int} (e2 : (¬ ((0 ≤ a ∧ a < m1 193 5) ∧ 0 ≤ b ∧ b < 10) → v2 = -2 ∧ m2 = m1) ∧ (((0 ≤ a ∧ a < m1 193 5) ∧ 0 ≤ b ∧ b < 10) → 0 < n → v2 = -5 ∧ m2 = m1) ∧ (∀ i : Nat, a = (i : Int) → ((0 ≤ a ∧ a < m1 193 5) ∧ 0 ≤ b ∧ b < 10) → n = 0 → v2 = m1 193 (32 + 2 * i) ∧ ∀ k : Nat, m2 193 k = nu_up m1 193 (32 + 2 * i) b 193 k)) : KeyE (m1 193) (m2 193) := by
  by_cases c : (0 ≤ a ∧ a < m1 193 5) ∧ 0 ≤ b ∧ b < 10
  · by_cases d : n = 0
    · have z := (e2.2.2 a.toNat (by omega) c d).2
      exact key_of (fun i x y => (z i).trans (nu_ne (by omega)))
    · rw [(e2.2.1 c (by omega)).2]; exact key_rf _
  · rw [(e2.1 c).2]; exact key_rf _
theorem zx_image {W1 W2 : List Nat} {m m1 m2 : Mm} {a v2 : Int} (z : ZX m) (f1 : Fr W1 m m1) (h1 : (!W1.contains 91999 && !W1.contains 92999) = true) (f2 : Fr W2 m1 m2) (h2 : W2.contains 91999 = false) (e2 : (¬ (0 ≤ a ∧ a < 3) → v2 = -2 ∧ m2 = m1) ∧ ∀ i : Nat, i < 3 → a = (i : Int) → v2 = 0 ∧ (∀ j : Nat, j < 69 → m2 194 (69 * i + j) = m1 193 j) ∧ (∀ j : Nat, (j < 69 * i ∨ 69 * i + 69 ≤ j) → m2 194 j = m1 194 j) ∧ ∀ k : Nat, m2 195 k = if k = i then 1 else m1 195 k) : ZX m2 := by
  have z1 := ZX_fr f1 h1 z
  by_cases c : 0 ≤ a ∧ a < 3
  · obtain ⟨_, y1, y2, _⟩ := e2.2 a.toNat (by omega) (by omega)
    refine ⟨by rw [show m2 193 = m1 193 from funext fun i => f2 193 i h2]; exact z1.1, fun k hk => ?_⟩
    by_cases g : k = a.toNat
    · rw [← g] at y1
      exact zw_e z1.1 (key_of (fun j hj _ => y1 j (by omega)))
    · exact zw_e (z1.2 k hk) (key_of (fun j hj _ => y2 (69 * k + j) (by omega)))
  · rw [(e2.1 c).2]; exact z1
theorem zx_back {W1 W2 : List Nat} {m m1 m2 : Mm} {a v2 : Int} (z : ZX m) (f1 : Fr W1 m m1) (h1 : (!W1.contains 91999 && !W1.contains 92999) = true) (f2 : Fr W2 m1 m2) (h2 : W2.contains 92999 = false) (e2 : (¬ (0 ≤ a ∧ a < 3) → v2 = -2 ∧ m2 = m1) ∧ ∀ i : Nat, i < 3 → a = (i : Int) → (m1 195 i = 0 → v2 = -6 ∧ m2 = m1) ∧ (¬ m1 195 i = 0 → v2 = 0 ∧ ∀ j : Nat, j < 69 → m2 193 j = m1 194 (69 * i + j))) : ZX m2 := by
  have z1 := ZX_fr f1 h1 z
  by_cases c : 0 ≤ a ∧ a < 3
  · obtain ⟨y1, y2⟩ := e2.2 a.toNat (by omega) (by omega)
    by_cases d : m1 195 a.toNat = 0
    · rw [(y1 d).2]; exact z1
    · refine ⟨zw_e (z1.2 a.toNat (by omega)) (key_of (fun j hj _ => (y2 d).2 j (by omega))), fun k hk => ?_⟩
      rw [show sl m2 k = sl m1 k from funext fun i => f2 194 (69 * k + i) h2]; exact z1.2 k hk
  · rw [(e2.1 c).2]; exact z1
theorem zx_isle {W1 W2 : List Nat} {m m1 m2 : Mm} {X : Nat → Int} {v2 : Int} (z : ZX m) (f1 : Fr W1 m m1) (h1 : (!W1.contains 91999 && !W1.contains 92999) = true) (f2 : Fr W2 m1 m2) (h2 : W2.contains 92999 = false) (e2 : IslR m1 m2 v2 (pAll X 802 0 (fun _ => 0))) : ZX m2 := by
  have z1 := ZX_fr f1 h1 z
  have hz : ∀ w, pAll X 802 0 (fun _ => 0) = .ok w → Zw w := fun w e => pall_z 802 0 (fun _ => 0) w (show (0 : Int) ≤ 0 by decide) (fun _ => ⟨rfl, rfl, rfl, rfl, rfl⟩) e
  generalize pAll X 802 0 (fun _ => 0) = R at e2 hz
  have e4 : ∀ k : Nat, sl m2 k = sl m1 k := fun k => funext fun i => f2 194 (69 * k + i) h2
  cases R with
  | error e =>
    obtain ⟨-, -, -, g2⟩ := e2
    exact zx_e z1 (key_of (fun i _ _ => g2 i)) (fun i => f2 194 i h2)
  | ok w =>
    obtain ⟨-, -, -, k1⟩ := e2
    refine ⟨zw_e (hz w rfl) (key_of (fun i x _ => k1 i (by omega))), fun k hk => ?_⟩
    rw [e4 k]; exact z1.2 k hk
theorem zx_0 {m : Mm} (h1 : ∀ i : Nat, i < 11 → m 193 i = 0) (h2 : ∀ i : Nat, i < 207 → m 194 i = 0) : ZX m :=
  ⟨fun _ => ⟨h1 0 (by decide), h1 1 (by decide), h1 5 (by decide), h1 6 (by decide), h1 7 (by decide)⟩, fun k hk _ => ⟨h2 _ (by omega), h2 _ (by omega), h2 _ (by omega), h2 _ (by omega), h2 _ (by omega)⟩⟩
/-- what is counted is told -/
theorem zx_told {m : Mm} (r : WX m) (z : ZX m) : (0 < m 4 1 ∨ 0 < m 4 2 ∨ 0 < m 4 6 ∨ 0 < m 4 7 ∨ 0 < m 4 8) → 0 < m 4 0 := by
  intro h
  have hd := r.1.1
  have e0 : m 4 0 = m 193 9 := hd.1
  have e1 : m 4 1 = m 193 0 := hd.2.1
  have e2 : m 4 2 = m 193 1 := hd.2.2.1
  have e3 : m 4 6 = m 193 5 := hd.2.2.2.2.2.2.1
  have e4 : m 4 7 = m 193 6 := hd.2.2.2.2.2.2.2.1
  have e5 : m 4 8 = m 193 7 := hd.2.2.2.2.2.2.2.2.1
  by_cases c : 0 < m 4 0
  · exact c
  · have y := z.1 (by omega)
    omega
