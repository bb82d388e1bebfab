/-! a contract out of others that split one of its arguments -/
def covU (Z : Nat → Bool) (C : List Con) (idx : Nat) (c : Con) (p : Nat) (hi : Int) : Int → List Nat → Bool
  | a, [] => decide (hi < a)
  | a, k :: ks => (match C[k]? with
    | none => false
    | some e => Nat.blt k idx && !Z k && (e.1 == c.1) && leQ e.2.2.1 c.2.2.1 && (e.2.2.1.1 == c.2.2.1.1) && e.2.2.2.1.all (fun x => c.2.2.2.1.contains x) && Nat.ble e.2.2.2.2 c.2.2.2.2
      && (match e.2.1[p]? with
        | none => false
        | some q => (q.1 == 0) && decide (q.2.1 ≤ a) && decide (e.2.1 = c.2.1.set p q) && covU Z C idx c p hi (q.2.2 + 1) ks))
def okU (Z : Nat → Bool) (C : List Con) (idx p : Nat) (ks : List Nat) : Bool := match C[idx]? with
  | none => false
  | some c => (match c.2.1[p]? with
    | none => false
    | some q => (q.1 == 0) && covU Z C idx c p q.2.2 q.2.1 ks)
theorem F2_setl {α β : Type} {R : α → β → Prop} : ∀ {L : List α} {L' : List β} {i : Nat} {a : α}, F2 R L L' → (∀ b, L'[i]? = some b → R a b) → F2 R (L.set i a) L'
  | [], [], _, _, _, _ => trivial
  | _ :: _, _ :: _, 0, _, g, h => ⟨h _ rfl, g.2⟩
  | _ :: _, _ :: _, i + 1, _, g, h => ⟨g.1, F2_setl (i := i) g.2 h⟩
  | [], _ :: _, _, _, g, _ => g.elim
  | _ :: _, [], _, _, g, _ => g.elim
theorem covU_ok {Z : Nat → Bool} {C : List Con} {T : List Kd} {idx p : Nat} {c : Con} {hi x : Int} {args : List AV} {m : Mm} (hc : ∀ k, k < idx → Z k = false → ConOK C T k) (hargs : F2 gq0 c.2.1 args) (hx : args[p]? = some (0, x)) (hxi : x ≤ hi) (hm : Gam m) : ∀ (ks : List Nat) (a : Int), a ≤ x → covU Z C idx c p hi a ks = true → ∃ (v : AV) (m' : Mm), Rn c.2.2.2.2 c.1 0 (layp args (mL c.1)) [] T m (v, T, m') ∧ gR c.2.2.1 v ∧ Gam m' ∧ Fr c.2.2.2.1 m m' := by
  intro ks
  induction ks with
  | nil =>
    intro a ha h
    unfold covU at h
    rw [decide_eq_true_eq] at h
    omega
  | cons k ks ih =>
    intro a ha h
    unfold covU at h
    split at h
    · cases h
    rename_i e he
    simp only [Bool.and_eq_true, beq_iff_eq] at h
    obtain ⟨⟨⟨⟨⟨⟨⟨h1, h0⟩, h2⟩, h3⟩, h4⟩, h5⟩, h6⟩, h7⟩ := h
    have hz : Z k = false := by simpa using h0
    split at h7
    · cases h7
    rename_i q hq
    simp only [Bool.and_eq_true, beq_iff_eq, decide_eq_true_eq] at h7
    obtain ⟨⟨⟨k1, k2⟩, k3⟩, k4⟩ := h7
    by_cases hle : x ≤ q.2.2
    · have hlt : k < idx := by
        unfold Nat.blt at h1
        exact Nat.le_of_ble_eq_true h1
      have ha2 : F2 gq0 e.2.1 args := by
        rw [k3]
        refine F2_setl hargs fun b hb => ?_
        rw [hx] at hb
        cases hb
        exact (gq_0 k1).mpr ⟨rfl, by dsimp only; omega, hle⟩
      obtain ⟨v, m', r1, r2, r3, r4⟩ := hc k hlt hz e he args m ha2 hm
      have h6' := Nat.le_of_ble_eq_true h6
      refine ⟨v, m', ?_, ?_, r3, Fr_mono (fun y hy => List.all_eq_true.mp h5 y (List.contains_iff_mem.mp hy)) r4⟩
      · have := Rn_d1 (k := c.2.2.2.2 - e.2.2.2.2) r1
        rw [show e.2.2.2.2 + (c.2.2.2.2 - e.2.2.2.2) = c.2.2.2.2 by omega, h2] at this
        exact this
      · unfold gR at r2 ⊢
        rw [h4] at r2
        by_cases e9 : c.2.2.1.1 = 9
        · rw [if_pos e9] at r2 ⊢; exact r2
        · rw [if_neg e9] at r2 ⊢
          exact ⟨r2.1, leQ_any h3 r2.2⟩
    · exact ih (q.2.2 + 1) (by omega) k4
theorem okU_ok {Z : Nat → Bool} {C : List Con} {T : List Kd} {idx p : Nat} {ks : List Nat} (h : okU Z C idx p ks = true) (hc : ∀ k, k < idx → Z k = false → ConOK C T k) : ConOK C T idx := by
  intro c hci args m hargs hm
  unfold okU at h
  rw [hci] at h
  dsimp only at h
  split at h
  · cases h
  rename_i q hq
  rw [Bool.and_eq_true, beq_iff_eq] at h
  obtain ⟨b, hb, hg⟩ := F2_get hargs hq
  have g := (gq_0 h.1).mp hg
  obtain ⟨b1, b2⟩ := b
  dsimp only at g
  obtain ⟨g1, g2, g3⟩ := g
  subst g1
  exact covU_ok hc hargs hb g3 hm ks _ g2 h.2
