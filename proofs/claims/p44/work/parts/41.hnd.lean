/-! contracts by hand: pure methods -/
def ConH (T : List Kd) (c : Con) : Prop := ∀ (args : List AV) (m : Mm), F2 gq0 c.2.1 args → Gam m → ∃ (v : AV) (m' : Mm), Rn c.2.2.2.2 c.1 0 (layp args (mL c.1)) [] T m (v, T, m') ∧ gR c.2.2.1 v ∧ Gam m' ∧ Fr c.2.2.2.1 m m'
theorem hand {C : List Con} {T : List Kd} {k : Nat} {c : Con} (hk : C[k]? = some c) (h : ConH T c) : ConOK C T k := by
  intro c' hc'
  rw [hk] at hc'
  cases hc'
  exact h
theorem F2_cons {α β : Type} {R : α → β → Prop} {a : α} {as : List α} {L : List β} (h : F2 R (a :: as) L) : ∃ b bs, L = b :: bs ∧ R a b ∧ F2 R as bs := by
  match L, h with
  | b :: bs, h => exact ⟨b, bs, rfl, h.1, h.2⟩
  | [], h => exact h.elim
theorem F2_nil {α β : Type} {R : α → β → Prop} {L : List β} (h : F2 R ([] : List α) L) : L = [] := by
  match L, h with
  | [], _ => rfl
  | _ :: _, h => exact h.elim
theorem gq_i {lo hi : Int} {v : AV} (h : gq0 (0, lo, hi) v) : ∃ x, v = (0, x) ∧ lo ≤ x ∧ x ≤ hi := by
  obtain ⟨a, b⟩ := v
  have := (gq_0 rfl).mp h
  dsimp only at this
  obtain ⟨rfl, h1, h2⟩ := this
  exact ⟨b, rfl, h1, h2⟩
theorem gq_l {lo hi : Int} {v : AV} (h : gq0 (1, lo, hi) v) : ∃ x, v = (1, x) ∧ lo ≤ x ∧ x ≤ hi := by
  obtain ⟨a, b⟩ := v
  have := (gq_1 rfl).mp h
  dsimp only at this
  obtain ⟨rfl, h1, h2⟩ := this
  exact ⟨b, rfl, h1, h2⟩
theorem gq_r {t z : Int} {v : AV} (h : gq0 (2, t, z) v) : ∃ o, v = (2, o) ∧ 0 < o ∧ o < 213 ∧ (tyO o.toNat : Int) = t := by
  obtain ⟨a, b⟩ := v
  have := (gq_2 rfl).mp h
  dsimp only at this
  obtain ⟨rfl, h1, h2, h3⟩ := this
  exact ⟨b, rfl, h1, h2, h3⟩
theorem gR_i {x : Int} (h : in32 x) : gR q32 (0, x) := by
  unfold gR
  rw [if_neg (by decide)]
  exact ⟨by decide, q32_ok h⟩
theorem trG_in {n p q : Int} : ∀ R : Nat, 0 ≤ trG n p q R ∧ trG n p q R ≤ R := by
  intro R
  induction R with
  | zero => exact ⟨Int.le_refl _, Int.le_refl _⟩
  | succ R ih =>
    unfold trG
    split
    · omega
    · omega
theorem trV_in (n p q : Int) : in32 (trV n p q) := by
  unfold trV
  split
  · have := trG_in (n := n) (p := p) (q := q) n.toNat
    unfold in32
    omega
  · unfold in32; omega
theorem askV_in (n r p w : Int) : in32 (askV n r p w) := by
  unfold askV
  split
  · split
    · unfold in32; omega
    · exact w32_in _
  · unfold in32; omega
theorem h_208 {T : List Kd} : ConH T (208, [(2, 90, 0), q32, q32, q32, q32], q32, [], 3) := by
  intro args m h hm
  obtain ⟨a, l, rfl, h0, h⟩ := F2_cons h
  obtain ⟨b, l, rfl, h1, h⟩ := F2_cons h
  obtain ⟨c, l, rfl, h2, h⟩ := F2_cons h
  obtain ⟨d, l, rfl, h3, h⟩ := F2_cons h
  obtain ⟨e, l, rfl, h4, h⟩ := F2_cons h
  obtain rfl := F2_nil h
  obtain ⟨o, rfl, -⟩ := gq_r h0
  obtain ⟨n, rfl, -⟩ := gq_i h1
  obtain ⟨r, rfl, -⟩ := gq_i h2
  obtain ⟨p, rfl, -⟩ := gq_i h3
  obtain ⟨w, rfl, -⟩ := gq_i h4
  exact ⟨_, m, c_208 (d := 1) o n r p w, gR_i (askV_in _ _ _ _), hm, Fr_rf⟩
theorem h_209 {T : List Kd} : ConH T (209, [(2, 90, 0), q32, q32, q32], q32, [], 3) := by
  intro args m h hm
  obtain ⟨a, l, rfl, h0, h⟩ := F2_cons h
  obtain ⟨b, l, rfl, h1, h⟩ := F2_cons h
  obtain ⟨c, l, rfl, h2, h⟩ := F2_cons h
  obtain ⟨d, l, rfl, h3, h⟩ := F2_cons h
  obtain rfl := F2_nil h
  obtain ⟨o, rfl, -⟩ := gq_r h0
  obtain ⟨n, rfl, -⟩ := gq_i h1
  obtain ⟨r, rfl, -⟩ := gq_i h2
  obtain ⟨p, rfl, -⟩ := gq_i h3
  exact ⟨_, m, c_209 (d := 1) o n r p, gR_i (trV_in _ _ _), hm, Fr_rf⟩
