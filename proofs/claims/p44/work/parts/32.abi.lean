/-! an instruction of the checker is sound -/
/-- the states of a checker's list, one of which the machine is in -/
def RA (W : List Nat) (T : List Kd) (m : Mm) (G' : List AV) (o : Option (List StA)) (o' : Option St5) : Prop := ∀ ss, o = some ss → ∃ s ∈ ss, ∃ q', o' = some q' ∧ ∃ ρ : Nat → Int, 0 < s.2.2.2.2 ∧ q'.1 = s.1 ∧ gSL ρ s.2.2.2.2 s.2.1 q'.2.1 ∧ gSL ρ s.2.2.2.2 s.2.2.1 q'.2.2.1 ∧ gSL ρ s.2.2.2.2 s.2.2.2.1 G' ∧ q'.2.2.2.1 = T ∧ Gam q'.2.2.2.2 ∧ Fr W m q'.2.2.2.2
theorem leQ_ok {x y : Q} {v : AV} (h : leQ x y = true) (hy : y.1 ≤ 3) (g : gq0 x v) : gq0 y v := by
  unfold leQ at h
  by_cases e : y.1 = 0 ∨ y.1 = 1
  · rw [if_pos e] at h
    simp only [Bool.and_eq_true, beq_iff_eq, decide_eq_true_eq] at h
    obtain ⟨⟨h1, h2⟩, h3⟩ := h
    rcases e with e | e
    · have := (gq_0 (h1.trans e)).mp g
      exact (gq_0 e).mpr ⟨this.1, by omega, by omega⟩
    · have := (gq_1 (h1.trans e)).mp g
      exact (gq_1 e).mpr ⟨this.1, by omega, by omega⟩
  · rw [if_neg e] at h
    by_cases e2 : y.1 = 2 ∨ y.1 = 3
    · rw [if_pos e2] at h
      simp only [Bool.and_eq_true, beq_iff_eq, decide_eq_true_eq] at h
      obtain ⟨h1, h2⟩ := h
      rcases e2 with e | e
      · have := (gq_2 (h1.trans e)).mp g
        exact (gq_2 e).mpr ⟨this.1, this.2.1, this.2.2.1, by rw [← h2]; exact this.2.2.2⟩
      · have := (gq_3 (h1.trans e)).mp g
        exact (gq_3 e).mpr ⟨this.1, by rw [← h2]; exact this.2⟩
    · omega
theorem leQ_any {x y : Q} {v : AV} (h : leQ x y = true) (g : gq0 x v) : gq0 y v := by
  by_cases hy : y.1 ≤ 3
  · exact leQ_ok h hy g
  · unfold gq0
    split <;> first | omega | trivial
theorem gc_0 {q : Q} {x : Int} (h : q.1 = 0) : gc q x ↔ q.2.1 ≤ x ∧ x ≤ q.2.2 := by unfold gc; rw [h]; exact Iff.rfl
theorem gc_1 {q : Q} {x : Int} (h : q.1 = 1) : gc q x ↔ q.2.1 ≤ x ∧ x ≤ q.2.2 := by unfold gc; rw [h]; exact Iff.rfl
theorem gc_2 {q : Q} {x : Int} (h : q.1 = 2) : gc q x ↔ 0 < x ∧ x < 213 ∧ (tyO x.toNat : Int) = q.2.1 := by unfold gc; rw [h]; exact Iff.rfl
theorem gc_gq {q : Q} {t : Nat} {x : Int} (h : gc q x) (ht : q.1 = t) : gq0 q (t, x) := by
  unfold gc at h
  unfold gq0
  split at h
  · rename_i e; rw [e]; exact ⟨by rw [← ht, e], h⟩
  · rename_i e; rw [e]; exact ⟨by rw [← ht, e], h⟩
  · rename_i e; rw [e]; exact ⟨by rw [← ht, e], h⟩
  · exact h.elim
theorem gq_gc {q : Q} {v : AV} (h : gq0 q v) (h2 : q.1 ≤ 2) : gc q v.2 := by
  rcases (show q.1 = 0 ∨ q.1 = 1 ∨ q.1 = 2 by omega) with e | e | e
  · exact (gc_0 e).mpr ((gq_0 e).mp h).2
  · exact (gc_1 e).mpr ((gq_1 e).mp h).2
  · exact (gc_2 e).mpr ((gq_2 e).mp h).2
set_option maxRecDepth 100000 in
theorem st_sm : strF.all (fun t => t.toList.all (fun c => Nat.ble c.toNat 65535)) = true := by decide +kernel
theorem st_small (k : Nat) (t : String) (h : strF[k]? = some t) (i : Nat) (hi : i < t.toList.length) : t.toList[i].toNat ≤ 65535 := by
  have h1 := List.all_eq_true.mp st_sm t (List.mem_of_getElem? h)
  exact Nat.le_of_ble_eq_true (List.all_eq_true.mp h1 _ (List.getElem_mem hi))
section RAc
variable {W : List Nat} {T : List Kd} {m : Mm} {G' : List AV} {ρ : Nat → Int} {nid : Nat} {L S G : List SV} {L' S' : List AV}
theorem RA_n {o : Option St5} : RA W T m G' none o := fun _ h => by cases h
theorem RA_1 {nx : Nat} {m' : Mm} (hn : 0 < nid) (hL : gSL ρ nid L L') (hS : gSL ρ nid S S') (hG : gSL ρ nid G G') (hm : Gam m') (hf : Fr W m m') : RA W T m G' (one1 nx L S G nid) (some (nx, L', S', T, m')) := fun ss h => by
  cases h
  exact ⟨_, List.mem_cons_self, _, rfl, ρ, hn, rfl, hL, hS, hG, rfl, hm, hf⟩
theorem RA_pp {t : Nat} {f : SV × List SV → Option (List StA)} {g : Int × List AV → Option St5} (ht : t ≤ 2) (hS : gSL ρ nid S S') (h : ∀ x S1 y S1', x.1.1 = t → gs ρ nid x (t, y) → gSL ρ nid S1 S1' → RA W T m G' (f (x, S1)) (g (y, S1'))) : RA W T m G' ((ppS t S).bind f) ((pp t S').bind g) := by
  match S, S', hS with
  | [], [], _ => exact RA_n
  | a :: S, b :: S', hS =>
    unfold ppS pp
    dsimp only
    by_cases e : a.1.1 = t
    · have e2 := gs_tag hS.1 (by omega)
      rw [e] at e2
      rw [if_pos e, if_pos e2]
      refine h _ _ _ _ e ?_ hS.2
      rw [← e2]; exact hS.1
    · rw [if_neg e]
      exact RA_n
theorem RA_p3 {f : SV × List SV → Option (List StA)} {g : Int × List AV → Option St5} (hS : gSL ρ nid S S') (h : ∀ x S1 y S1', x.1.1 = 3 → y = 1000000 + x.1.2.1 → gSL ρ nid S1 S1' → RA W T m G' (f (x, S1)) (g (y, S1'))) : RA W T m G' ((ppS 3 S).bind f) ((pp 2 S').bind g) := by
  match S, S', hS with
  | [], [], _ => exact RA_n
  | a :: S, b :: S', hS =>
    unfold ppS pp
    dsimp only
    by_cases e : a.1.1 = 3
    · have e2 := (gq_3 e).mp hS.1.1
      rw [if_pos e, if_pos e2.1]
      exact h _ _ _ _ e e2.2 hS.2
    · rw [if_neg e]
      exact RA_n
theorem RA_gl {t i : Nat} {f : SV → Option (List StA)} {g : Int → Option St5} (ht : t ≤ 2) (hL : gSL ρ nid L L') (h : ∀ x y, x.1.1 = t → gs ρ nid x (t, y) → RA W T m G' (f x) (g y)) : RA W T m G' ((glS L t i).bind f) ((gl L' t i).bind g) := by
  unfold glS gl
  cases e : L[i]? with
  | none => exact RA_n
  | some a =>
    obtain ⟨b, h1, h2⟩ := F2_get hL e
    rw [h1]
    dsimp only
    by_cases e2 : a.1.1 = t
    · have e3 := gs_tag h2 (by omega)
      rw [e2] at e3
      rw [if_pos e2, if_pos e3]
      refine h _ _ e2 ?_
      rw [← e3]; exact h2
    · rw [if_neg e2]
      exact RA_n
theorem RA_i {P Q : Prop} [Decidable P] [Decidable Q] {a : Option (List StA)} {b b' : Option St5} (h1 : P → Q) (h2 : P → RA W T m G' a b) : RA W T m G' (if P then a else none) (if Q then b else b') := by
  by_cases h : P
  · rw [if_pos h, if_pos (h1 h)]; exact h2 h
  · rw [if_neg h]; exact RA_n
theorem RA_ii {P : Prop} [Decidable P] {a : Option (List StA)} {o' : Option St5} (h2 : P → RA W T m G' a o') : RA W T m G' (if P then a else none) o' := by
  by_cases h : P
  · rw [if_pos h]; exact h2 h
  · rw [if_neg h]; exact RA_n
theorem RA_br {c : ClassFile.Cond} {x y : SV} {a b : AV} {p1 p2 : Nat} (hn : 0 < nid) (hx : gs ρ nid x a) (hy : gs ρ nid y b) (tx : x.1.1 = 0) (ty : y.1.1 = 0) (hL : gSL ρ nid L L') (hS : gSL ρ nid S S') (hG : gSL ρ nid G G') (hm : Gam m) : RA W T m G' (some (brS c x y p1 p2 L S G nid)) (some (if cnd c a.2 b.2 = true then p1 else p2, L', S', T, m)) := by
  intro ss h
  cases h
  unfold brS
  cases e : cnQ c x.1 y.1 with
  | some t =>
    have := cnQ_ok e ((gq_0 tx).mp hx.1).2 ((gq_0 ty).mp hy.1).2
    rw [this]
    exact ⟨_, List.mem_cons_self, _, rfl, ρ, hn, rfl, hL, hS, hG, rfl, hm, Fr_rf⟩
  | none =>
    dsimp only
    cases e2 : cnd c a.2 b.2 with
    | true => exact ⟨_, List.mem_cons_self, _, rfl, ρ, hn, rfl, rfC_ok hx hy tx ty e2 hL, rfC_ok hx hy tx ty e2 hS, rfC_ok hx hy tx ty e2 hG, rfl, hm, Fr_rf⟩
    | false => exact ⟨_, List.mem_cons_of_mem _ List.mem_cons_self, _, rfl, ρ, hn, rfl, rfC_ok hx hy tx ty e2 hL, rfC_ok hx hy tx ty e2 hS, rfC_ok hx hy tx ty e2 hG, rfl, hm, Fr_rf⟩
theorem csumS_ok : ∀ {L : List SV} {L' : List AV}, gSL ρ nid L L' → csum L' ≤ csumS L
  | [], [], _ => Nat.le_refl _
  | a :: L, b :: L', g => by
    have h3 := csumS_ok g.2
    unfold csum csumS at *
    rw [List.map_cons, List.sum_cons, List.map_cons, List.sum_cons]
    have h4 : ctg b ≤ if a.1.1 = 1 ∨ 3 < a.1.1 then 2 else 1 := by
      show (if b.1 = 1 then 2 else 1) ≤ _
      by_cases e : 3 < a.1.1
      · rw [if_pos (show a.1.1 = 1 ∨ 3 < a.1.1 from Or.inr e)]
        split <;> omega
      · by_cases e3 : a.1.1 = 3
        · rw [gs_tag3 g.1 e3, if_neg (by decide), if_neg (by omega)]; omega
        · rw [gs_tag g.1 (by omega)]
          split <;> split <;> omega
    exact Nat.add_le_add h4 h3
  | [], _ :: _, g => g.elim
  | _ :: _, [], g => g.elim
theorem RA_lk {k : Nat} {kd : Kd} {o : Option (List StA)} {g : Kd → Option St5} (h : T[k]? = some kd) (h2 : RA W T m G' o (g kd)) : RA W T m G' o ((T[k]?).bind g) := by
  rw [h]; exact h2
theorem ob_sh (hT : ∀ o, 0 < o → o < 213 → T[o]? = some (tyK (tyO o))) {x : SV} {o : Int} (hx : gs ρ nid x (2, o)) (tx : x.1.1 = 2) : 0 < o ∧ o.toNat < 213 ∧ T[o.toNat]? = some (tyK x.1.2.1.toNat) ∧ tyO o.toNat = x.1.2.1.toNat := by
  obtain ⟨-, h1, h2, h3⟩ := (gq_2 tx).mp hx.1
  dsimp only at h1 h2 h3
  have h4 : tyO o.toNat = x.1.2.1.toNat := by omega
  exact ⟨h1, by omega, by rw [← h4]; exact hT _ (by omega) (by omega), h4⟩
theorem cU_ok {t : Nat} {q : Q} (h : cU t = some q) (i : Nat) : cT t i = q := by
  unfold cT; rw [h]
theorem jn_ok {t lo : Nat} {x : Int} : ∀ (n i : Nat), lo ≤ i → i ≤ lo + n → (jnQ t lo n).1 ≤ 2 → gc (cT t i) x → (jnQ t lo n).1 = (cT t i).1 ∧ gc (jnQ t lo n) x := by
  intro n
  induction n with
  | zero =>
    intro i h1 h2 h3 h4
    obtain rfl : i = lo := by omega
    exact ⟨rfl, h4⟩
  | succ n ih =>
    intro i h1 h2 h3 h4
    have e : jnQ t lo (n + 1) = jn2 (jnQ t lo n) (cT t (lo + n + 1)) := rfl
    rw [e] at h3 ⊢
    unfold jn2 at h3 ⊢
    by_cases hc : (jnQ t lo n).1 = (cT t (lo + n + 1)).1 ∧ (jnQ t lo n).1 ≤ 1
    · rw [if_pos hc] at h3 ⊢
      have key : ∀ q : Q, q.1 = (jnQ t lo n).1 → gc q x → (min (jnQ t lo n).2.1 (cT t (lo + n + 1)).2.1 ≤ q.2.1) → (q.2.2 ≤ max (jnQ t lo n).2.2 (cT t (lo + n + 1)).2.2) → gc ((jnQ t lo n).1, min (jnQ t lo n).2.1 (cT t (lo + n + 1)).2.1, max (jnQ t lo n).2.2 (cT t (lo + n + 1)).2.2) x := by
        intro q hq hg g1 g2
        rcases (show (jnQ t lo n).1 = 0 ∨ (jnQ t lo n).1 = 1 by omega) with z | z
        · have h7 := (gc_0 (hq.trans z)).mp hg
          exact (gc_0 (q := ((jnQ t lo n).1, min (jnQ t lo n).2.1 (cT t (lo + n + 1)).2.1, max (jnQ t lo n).2.2 (cT t (lo + n + 1)).2.2)) z).mpr ⟨by dsimp only; omega, by dsimp only; omega⟩
        · have h7 := (gc_1 (hq.trans z)).mp hg
          exact (gc_1 (q := ((jnQ t lo n).1, min (jnQ t lo n).2.1 (cT t (lo + n + 1)).2.1, max (jnQ t lo n).2.2 (cT t (lo + n + 1)).2.2)) z).mpr ⟨by dsimp only; omega, by dsimp only; omega⟩
      by_cases hi : i = lo + n + 1
      · subst hi
        exact ⟨hc.1, key _ hc.1.symm h4 (by omega) (by omega)⟩
      · obtain ⟨a1, a2⟩ := ih i h1 (by omega) (by omega) h4
        exact ⟨a1, key _ rfl a2 (by omega) (by omega)⟩
    · rw [if_neg hc] at h3
      dsimp only at h3
      omega
theorem ld_ok {t : Nat} {lo hi x i : Int} (h0 : 0 ≤ lo) (h1 : lo ≤ i) (h2 : i ≤ hi) (h3 : (ldQ t lo hi).1 ≤ 2) (h4 : gc (cT t i.toNat) x) : gc (ldQ t lo hi) x := by
  unfold ldQ at h3 ⊢
  split
  · rename_i q hq
    rw [cU_ok hq] at h4
    exact h4
  · rename_i hq
    rw [hq] at h3
    exact (jn_ok _ i.toNat (by omega) (by omega) h3 h4).2
theorem leC_ok {q c : Q} {v : AV} (h : leC q c = true) (g : gq0 q v) : gc c v.2 := by
  unfold leC at h
  rw [Bool.and_eq_true] at h
  exact gq_gc (leQ_any h.1 g) (Nat.le_of_ble_eq_true h.2)
theorem all_ok {t lo : Nat} {q : Q} : ∀ (n i : Nat), lo ≤ i → i ≤ lo + n → allQ t lo q n = true → leC q (cT t i) = true := by
  intro n
  induction n with
  | zero =>
    intro i h1 h2 h3
    obtain rfl : i = lo := by omega
    exact h3
  | succ n ih =>
    intro i h1 h2 h3
    have e : allQ t lo q (n + 1) = (allQ t lo q n && leC q (cT t (lo + n + 1))) := rfl
    rw [e, Bool.and_eq_true] at h3
    by_cases hi : i = lo + n + 1
    · subst hi; exact h3.2
    · exact ih i h1 (by omega) h3.1
theorem sd_ok {t : Nat} {lo hi i : Int} {q : Q} {v : AV} (h0 : 0 ≤ lo) (h1 : lo ≤ i) (h2 : i ≤ hi) (h3 : sdQ t lo hi q = true) (g : gq0 q v) : gc (cT t i.toNat) v.2 := by
  unfold sdQ at h3
  split at h3
  · rename_i q' hq
    rw [cU_ok hq]
    exact leC_ok h3 g
  · exact leC_ok (all_ok _ i.toNat (by omega) (by omega) h3) g
theorem Gam_up {o i : Nat} {x : Int} (h : Gam m) (hx : gc (cT (tyO o) i) x) : Gam (nu_up m o i x) := by
  intro p h1 h2 j hj
  unfold nu_up
  by_cases e : p = o
  · rw [if_pos e]
    by_cases e2 : j = i
    · rw [if_pos e2, e, e2]; exact hx
    · rw [if_neg e2]; exact h p h1 h2 j hj
  · rw [if_neg e]; exact h p h1 h2 j hj
theorem Fr_up {o i : Nat} {x : Int} (h : W.contains (tyO o * 1000 + (if (tyK (tyO o)).1 < 100 then i else 999)) = true) : Fr W m (nu_up m o i x) := by
  intro p j hp
  unfold nu_up
  by_cases e : p = o
  · rw [if_pos e]
    by_cases e2 : j = i
    · subst e e2; rw [h] at hp; cases hp
    · rw [if_neg e2]
  · rw [if_neg e]
end RAc
