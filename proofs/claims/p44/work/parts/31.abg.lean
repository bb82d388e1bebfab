/-! what the checker's values mean -/
def F2 {α β : Type} (R : α → β → Prop) : List α → List β → Prop
  | [], [] => True
  | a :: as, b :: bs => R a b ∧ F2 R as bs
  | _, _ => False
section F2
variable {α β : Type} {R : α → β → Prop}
theorem F2_len : ∀ {L : List α} {L' : List β}, F2 R L L' → L'.length = L.length
  | [], [], _ => rfl
  | _ :: _, _ :: _, h => by rw [List.length_cons, List.length_cons, F2_len h.2]
  | [], _ :: _, h => h.elim
  | _ :: _, [], h => h.elim
theorem F2_get : ∀ {L : List α} {L' : List β} {i : Nat} {a : α}, F2 R L L' → L[i]? = some a → ∃ b, L'[i]? = some b ∧ R a b
  | [], [], _, _, _, h => by cases h
  | a :: _, b :: _, 0, _, g, h => by cases h; exact ⟨b, rfl, g.1⟩
  | _ :: _, _ :: _, i + 1, _, g, h => by
    obtain ⟨b, h1, h2⟩ := F2_get (i := i) g.2 h
    exact ⟨b, h1, h2⟩
  | [], _ :: _, _, _, g, _ => g.elim
  | _ :: _, [], _, _, g, _ => g.elim
theorem F2_set : ∀ {L : List α} {L' : List β} {i : Nat} {a : α} {b : β}, F2 R L L' → R a b → F2 R (L.set i a) (L'.set i b)
  | [], [], _, _, _, _, _ => trivial
  | _ :: _, _ :: _, 0, _, _, g, h => ⟨h, g.2⟩
  | _ :: _, _ :: _, _ + 1, _, _, g, h => ⟨g.1, F2_set g.2 h⟩
  | [], _ :: _, _, _, _, g, _ => g.elim
  | _ :: _, [], _, _, _, g, _ => g.elim
theorem F2_setr : ∀ {L : List α} {L' : List β} {i : Nat} {b : β}, F2 R L L' → (∀ a, L[i]? = some a → R a b) → F2 R L (L'.set i b)
  | [], [], _, _, _, _ => trivial
  | _ :: _, _ :: _, 0, _, g, h => ⟨h _ rfl, g.2⟩
  | _ :: _, _ :: _, i + 1, _, g, h => ⟨g.1, F2_setr (i := i) g.2 h⟩
  | [], _ :: _, _, _, g, _ => g.elim
  | _ :: _, [], _, _, g, _ => g.elim
theorem F2_app : ∀ {L : List α} {L' : List β} {K : List α} {K' : List β}, F2 R L L' → F2 R K K' → F2 R (L ++ K) (L' ++ K')
  | [], [], _, _, _, h => h
  | _ :: _, _ :: _, _, _, g, h => ⟨g.1, F2_app g.2 h⟩
  | [], _ :: _, _, _, g, _ => g.elim
  | _ :: _, [], _, _, g, _ => g.elim
theorem F2_rev : ∀ {L : List α} {L' : List β}, F2 R L L' → F2 R L.reverse L'.reverse
  | [], [], _ => trivial
  | a :: L, b :: L', g => by
    rw [List.reverse_cons, List.reverse_cons]
    exact F2_app (F2_rev g.2) ⟨g.1, trivial⟩
  | [], _ :: _, g => g.elim
  | _ :: _, [], g => g.elim
theorem F2_take : ∀ {L : List α} {L' : List β} {n : Nat}, F2 R L L' → F2 R (L.take n) (L'.take n)
  | [], [], _, _ => by rw [List.take_nil, List.take_nil]; trivial
  | _ :: _, _ :: _, 0, _ => trivial
  | _ :: _, _ :: _, n + 1, g => ⟨g.1, F2_take (n := n) g.2⟩
  | [], _ :: _, _, g => g.elim
  | _ :: _, [], _, g => g.elim
theorem F2_drop : ∀ {L : List α} {L' : List β} {n : Nat}, F2 R L L' → F2 R (L.drop n) (L'.drop n)
  | [], [], _, _ => by rw [List.drop_nil, List.drop_nil]; trivial
  | _ :: _, _ :: _, 0, g => g
  | _ :: _, _ :: _, n + 1, g => F2_drop (n := n) g.2
  | [], _ :: _, _, g => g.elim
  | _ :: _, [], _, g => g.elim
theorem F2_imp {R' : α → β → Prop} (h : ∀ a b, R a b → R' a b) : ∀ {L : List α} {L' : List β}, F2 R L L' → F2 R' L L'
  | [], [], _ => trivial
  | _ :: _, _ :: _, g => ⟨h _ _ g.1, F2_imp h g.2⟩
  | [], _ :: _, g => g.elim
  | _ :: _, [], g => g.elim
theorem F2_map {γ : Type} {R' : γ → β → Prop} {f : α → γ} (h : ∀ a b, R a b → R' (f a) b) : ∀ {L : List α} {L' : List β}, F2 R L L' → F2 R' (L.map f) L'
  | [], [], _ => trivial
  | _ :: _, _ :: _, g => ⟨h _ _ g.1, F2_map h g.2⟩
  | [], _ :: _, g => g.elim
  | _ :: _, [], g => g.elim
end F2
/-- a value within its bounds -/
def gq0 (q : Q) (v : AV) : Prop := match q.1 with
  | 0 => v.1 = 0 ∧ q.2.1 ≤ v.2 ∧ v.2 ≤ q.2.2
  | 1 => v.1 = 1 ∧ q.2.1 ≤ v.2 ∧ v.2 ≤ q.2.2
  | 2 => v.1 = 2 ∧ 0 < v.2 ∧ v.2 < 213 ∧ (tyO v.2.toNat : Int) = q.2.1
  | 3 => v.1 = 2 ∧ v.2 = 1000000 + q.2.1
  | _ => True
def gc (q : Q) (x : Int) : Prop := match q.1 with
  | 0 => q.2.1 ≤ x ∧ x ≤ q.2.2
  | 1 => q.2.1 ≤ x ∧ x ≤ q.2.2
  | 2 => 0 < x ∧ x < 213 ∧ (tyO x.toNat : Int) = q.2.1
  | _ => False
/-- the memory keeps to its bounds -/
def Gam (m : Mm) : Prop := ∀ (o : Nat), 0 < o → o < 213 → ∀ i, i < (tyK (tyO o)).2 → gc (cT (tyO o) i) (m o i)
/-- cells that were not to be written are as they were -/
def Fr (W : List Nat) (m m' : Mm) : Prop := ∀ (o i : Nat), W.contains (tyO o * 1000 + (if (tyK (tyO o)).1 < 100 then i else 999)) = false → m' o i = m o i
theorem Fr_rf {W : List Nat} {m : Mm} : Fr W m m := fun _ _ _ => rfl
theorem Fr_tr {W : List Nat} {a b c : Mm} (h1 : Fr W a b) (h2 : Fr W b c) : Fr W a c := fun o i h => (h2 o i h).trans (h1 o i h)
theorem Fr_mono {W W' : List Nat} {a b : Mm} (h : ∀ x, W.contains x = true → W'.contains x = true) (h1 : Fr W a b) : Fr W' a b := fun o i h2 => h1 o i (by
  cases e : W.contains (tyO o * 1000 + (if (tyK (tyO o)).1 < 100 then i else 999)) with
  | false => rfl
  | true => rw [h _ e] at h2; cases h2)
def gs (ρ : Nat → Int) (n : Nat) (s : SV) (v : AV) : Prop := gq0 s.1 v ∧ (s.2.1 ≠ 0 → (s.1.1 = 0 ∨ s.1.1 = 1) ∧ v.2 = ρ s.2.1 + s.2.2) ∧ s.2.1 < n
abbrev gSL (ρ : Nat → Int) (n : Nat) : List SV → List AV → Prop := F2 (gs ρ n)
section GS
variable {ρ : Nat → Int} {n : Nat} {s : SV} {v : AV} {q : Q}
theorem gs_0 (hn : 0 < n) (h : gq0 q v) : gs ρ n (sv0 q) v := ⟨h, fun z => absurd rfl z, hn⟩
theorem gs_fil (hn : 0 < n) : gs ρ n fil (9, 0) := ⟨trivial, fun z => absurd rfl z, hn⟩
theorem gs_fil' (hn : 0 < n) : gs ρ n fil v := ⟨trivial, fun z => absurd rfl z, hn⟩
theorem gq_0 (h : q.1 = 0) : gq0 q v ↔ v.1 = 0 ∧ q.2.1 ≤ v.2 ∧ v.2 ≤ q.2.2 := by unfold gq0; rw [h]; exact Iff.rfl
theorem gq_1 (h : q.1 = 1) : gq0 q v ↔ v.1 = 1 ∧ q.2.1 ≤ v.2 ∧ v.2 ≤ q.2.2 := by unfold gq0; rw [h]; exact Iff.rfl
theorem gq_2 (h : q.1 = 2) : gq0 q v ↔ v.1 = 2 ∧ 0 < v.2 ∧ v.2 < 213 ∧ (tyO v.2.toNat : Int) = q.2.1 := by unfold gq0; rw [h]; exact Iff.rfl
theorem gq_3 (h : q.1 = 3) : gq0 q v ↔ v.1 = 2 ∧ v.2 = 1000000 + q.2.1 := by unfold gq0; rw [h]; exact Iff.rfl
/-- a new symbol -/
theorem gs_ext {x : Int} (h : gs ρ n s v) : gs (fun k => if k = n then x else ρ k) (n + 1) s v := by
  refine ⟨h.1, fun z => ?_, by have := h.2.2; omega⟩
  dsimp only
  rw [if_neg (by have := h.2.2; omega)]
  exact h.2.1 z
theorem gSL_ext {x : Int} {L : List SV} {L' : List AV} (h : gSL ρ n L L') : gSL (fun k => if k = n then x else ρ k) (n + 1) L L' := F2_imp (fun _ _ z => gs_ext z) h
theorem gs_sym (hn : 0 < n) (h : gs ρ n s v) : gs (fun k => if k = n then v.2 else ρ k) (n + 1) (sym s n) v := by
  unfold sym
  by_cases e : s.2.1 = 0 ∧ (s.1.1 = 0 ∨ s.1.1 = 1)
  · rw [if_pos e]
    refine ⟨h.1, fun _ => ⟨e.2, ?_⟩, Nat.lt_succ_self n⟩
    show v.2 = (if n = n then v.2 else ρ n) + 0
    rw [if_pos rfl]; omega
  · rw [if_neg e]; exact gs_ext h
theorem gs_kl1 {L : List SV} {L' : List AV} {i : Nat} (hn : 0 < n) (g : gSL ρ n L L') : gSL ρ n (kl1S L i) (kl1 L' i) := by
  unfold kl1S kl1
  match i with
  | 0 => exact g
  | k + 1 =>
    dsimp only
    cases h : L[k]? with
    | none =>
      have h2 : L'[k]? = none := by
        rw [List.getElem?_eq_none_iff] at h ⊢
        rw [F2_len g]
        exact h
      rw [h2]
      exact g
    | some a =>
      obtain ⟨b, h1, h2⟩ := F2_get g h
      rw [h1]
      dsimp only
      by_cases h3 : a.1.1 = 1
      · rw [if_pos h3, if_pos ((gq_1 h3).mp h2.1).1]
        exact F2_set g (gs_fil hn)
      · rw [if_neg h3]
        by_cases h4 : b.1 = 1
        · rw [if_pos h4]
          refine F2_setr g fun a' ha' => ?_
          rw [h] at ha'
          cases ha'
          have h5 := h2.1
          have h6 : ¬ a.1.1 = 0 := fun z => by have := ((gq_0 z).mp h5).1; omega
          have h7 : ¬ a.1.1 = 2 := fun z => by have := ((gq_2 z).mp h5).1; omega
          have h8 : ¬ a.1.1 = 3 := fun z => by have := ((gq_3 z).mp h5).1; omega
          refine ⟨?_, fun z => ?_, h2.2.2⟩
          · unfold gq0
            split
            · contradiction
            · contradiction
            · contradiction
            · contradiction
            · trivial
          · rcases (h2.2.1 z).1 with z | z
            · exact absurd z h6
            · exact absurd z h3
        · rw [if_neg h4]; exact g
theorem gs_st1 {L : List SV} {L' : List AV} {i : Nat} (hn : 0 < n) (g : gSL ρ n L L') (h : gs ρ n s v) : gSL ρ n (st1S L i s) (st1 L' i v) := F2_set (gs_kl1 hn g) h
theorem gs_st2 {L : List SV} {L' : List AV} {i : Nat} (hn : 0 < n) (g : gSL ρ n L L') (h : gs ρ n s v) : gSL ρ n (st2S L i s) (st2 L' i v) := F2_set (gs_st1 hn g h) (gs_fil hn)
theorem gs_rep (hn : 0 < n) : ∀ {k : Nat}, gSL ρ n (List.replicate k fil) (List.replicate k (9, 0))
  | 0 => trivial
  | k + 1 => ⟨gs_fil hn, gs_rep hn (k := k)⟩
/-- values of a known tag -/
theorem gs_tag (h : gs ρ n s v) (h9 : s.1.1 ≤ 2) : v.1 = s.1.1 := by
  have h5 := h.1
  rcases (show s.1.1 = 0 ∨ s.1.1 = 1 ∨ s.1.1 = 2 by omega) with e | e | e
  · rw [e]; exact ((gq_0 e).mp h5).1
  · rw [e]; exact ((gq_1 e).mp h5).1
  · rw [e]; exact ((gq_2 e).mp h5).1
theorem gs_tag3 (h : gs ρ n s v) (h9 : s.1.1 = 3) : v.1 = 2 := ((gq_3 h9).mp h.1).1
/-- learning bounds -/
theorem rfV_ok {w : AV} {lo hi : Int} {X : List SV} {X' : List AV} {u : SV} (hu : gs ρ n u w) (h1 : lo ≤ w.2) (h2 : w.2 ≤ hi) (g : gSL ρ n X X') : gSL ρ n (rfV u lo hi X) X' := by
  unfold rfV
  by_cases e : u.2.1 = 0
  · rw [if_pos e]; exact g
  · rw [if_neg e]
    obtain ⟨-, hw⟩ := hu.2.1 e
    refine F2_map (fun a b hab => ?_) g
    by_cases e2 : a.2.1 = u.2.1
    · rw [if_pos e2]
      obtain ⟨ht, hb⟩ := hab.2.1 (by rw [e2]; exact e)
      rw [e2] at hb
      refine ⟨?_, fun _ => ⟨ht, by rw [e2]; exact hb⟩, hab.2.2⟩
      rcases ht with ht | ht
      · have h3 := (gq_0 ht).mp hab.1
        refine (gq_0 (q := (a.1.1, max a.1.2.1 (lo - u.2.2 + a.2.2), min a.1.2.2 (hi - u.2.2 + a.2.2))) ht).mpr ⟨h3.1, ?_, ?_⟩ <;> dsimp only <;> omega
      · have h3 := (gq_1 ht).mp hab.1
        refine (gq_1 (q := (a.1.1, max a.1.2.1 (lo - u.2.2 + a.2.2), min a.1.2.2 (hi - u.2.2 + a.2.2))) ht).mpr ⟨h3.1, ?_, ?_⟩ <;> dsimp only <;> omega
    · rw [if_neg e2]; exact hab
theorem rLt_ok {x y : SV} {a b : AV} {X : List SV} {X' : List AV} (hx : gs ρ n x a) (hy : gs ρ n y b) (tx : x.1.1 = 0) (ty : y.1.1 = 0) (h : a.2 < b.2) (g : gSL ρ n X X') : gSL ρ n (rLt x y X) X' := by
  have h1 := (gq_0 tx).mp hx.1
  have h2 := (gq_0 ty).mp hy.1
  exact rfV_ok hy (by omega) (by omega) (rfV_ok hx (by omega) (by omega) g)
theorem rLe_ok {x y : SV} {a b : AV} {X : List SV} {X' : List AV} (hx : gs ρ n x a) (hy : gs ρ n y b) (tx : x.1.1 = 0) (ty : y.1.1 = 0) (h : a.2 ≤ b.2) (g : gSL ρ n X X') : gSL ρ n (rLe x y X) X' := by
  have h1 := (gq_0 tx).mp hx.1
  have h2 := (gq_0 ty).mp hy.1
  exact rfV_ok hy (by omega) (by omega) (rfV_ok hx (by omega) (by omega) g)
theorem rEq_ok {x y : SV} {a b : AV} {X : List SV} {X' : List AV} (hx : gs ρ n x a) (hy : gs ρ n y b) (tx : x.1.1 = 0) (ty : y.1.1 = 0) (h : a.2 = b.2) (g : gSL ρ n X X') : gSL ρ n (rEq x y X) X' := by
  have h1 := (gq_0 tx).mp hx.1
  have h2 := (gq_0 ty).mp hy.1
  exact rfV_ok hy (by omega) (by omega) (rfV_ok hx (by omega) (by omega) g)
theorem rNe_ok {x y : SV} {a b : AV} {X : List SV} {X' : List AV} (hx : gs ρ n x a) (hy : gs ρ n y b) (tx : x.1.1 = 0) (ty : y.1.1 = 0) (h : ¬ a.2 = b.2) (g : gSL ρ n X X') : gSL ρ n (rNe x y X) X' := by
  have h1 := (gq_0 tx).mp hx.1
  have h2 := (gq_0 ty).mp hy.1
  unfold rNe
  split
  · split
    · exact rfV_ok hx (by omega) (by omega) g
    · split
      · exact rfV_ok hx (by omega) (by omega) g
      · exact g
  · exact g
theorem rfC_ok {c : ClassFile.Cond} {t : Bool} {x y : SV} {a b : AV} {X : List SV} {X' : List AV} (hx : gs ρ n x a) (hy : gs ρ n y b) (tx : x.1.1 = 0) (ty : y.1.1 = 0) (h : cnd c a.2 b.2 = t) (g : gSL ρ n X X') : gSL ρ n (rfC c t x y X) X' := by
  unfold cnd at h
  unfold rfC
  cases c <;> cases t <;> simp only [decide_eq_true_eq, decide_eq_false_iff_not, Int.not_lt, Int.not_le, Decidable.not_not] at h
  · exact rNe_ok hx hy tx ty h g
  · exact rEq_ok hx hy tx ty h g
  · exact rEq_ok hx hy tx ty h g
  · exact rNe_ok hx hy tx ty h g
  · exact rLe_ok hy hx ty tx h g
  · exact rLt_ok hx hy tx ty h g
  · exact rLt_ok hx hy tx ty h g
  · exact rLe_ok hy hx ty tx h g
  · exact rLe_ok hx hy tx ty h g
  · exact rLt_ok hy hx ty tx h g
  · exact rLt_ok hy hx ty tx h g
  · exact rLe_ok hx hy tx ty h g
theorem ltQ_ok {p q : Q} {a b : Int} {r : Bool} (h : ltQ p q = some r) (h1 : p.2.1 ≤ a ∧ a ≤ p.2.2) (h2 : q.2.1 ≤ b ∧ b ≤ q.2.2) : decide (a < b) = r := by
  unfold ltQ at h
  split at h
  · cases h; exact decide_eq_true (by omega)
  · split at h
    · cases h; exact decide_eq_false (by omega)
    · cases h
theorem eqQ_ok {p q : Q} {a b : Int} {r : Bool} (h : eqQ p q = some r) (h1 : p.2.1 ≤ a ∧ a ≤ p.2.2) (h2 : q.2.1 ≤ b ∧ b ≤ q.2.2) : decide (a = b) = r := by
  unfold eqQ at h
  split at h
  · cases h; exact decide_eq_false (by omega)
  · split at h
    · cases h; exact decide_eq_false (by omega)
    · split at h
      · cases h; exact decide_eq_true (by omega)
      · cases h
theorem cnQ_ok {c : ClassFile.Cond} {p q : Q} {a b : Int} {r : Bool} (h : cnQ c p q = some r) (h1 : p.2.1 ≤ a ∧ a ≤ p.2.2) (h2 : q.2.1 ≤ b ∧ b ≤ q.2.2) : cnd c a b = r := by
  cases c
  · exact eqQ_ok h h1 h2
  · obtain ⟨t, h3, rfl⟩ := Option.map_eq_some_iff.mp h
    rw [← eqQ_ok h3 h1 h2, ← decide_not]
    rfl
  · exact ltQ_ok h h1 h2
  · obtain ⟨t, h3, rfl⟩ := Option.map_eq_some_iff.mp h
    rw [← ltQ_ok h3 h1 h2, ← decide_not]
    exact decide_eq_decide.mpr (by omega)
  · exact ltQ_ok h h2 h1
  · obtain ⟨t, h3, rfl⟩ := Option.map_eq_some_iff.mp h
    rw [← ltQ_ok h3 h2 h1, ← decide_not]
    exact decide_eq_decide.mpr (by omega)
end GS
