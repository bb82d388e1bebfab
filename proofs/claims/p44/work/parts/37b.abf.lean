/-! the certificates, checked -/
/-- the contracts that are proved by hand -/
def manL : List Nat := [6, 7, 166, 171, 174, 177, 180, 184, 187, 199, 206, 214, 323, 617, 618, 626, 714, 853, 878, 884, 885, 887, 907, 925, 926, 927, 928, 937, 958, 959, 960, 968, 969, 1033]
def Fl : Fg := fun k => match fgL.find? (fun q => q.1 == k) with
  | some q => (true, q.2.1, q.2.2)
  | none => (false, false, false)
def Zf (k : Nat) : Bool := (Fl k).1
theorem Fl_z (k : Nat) (h : (Fl k).1 = false) : (Fl k).2.1 = false ∧ (Fl k).2.2 = false := by
  unfold Fl at h ⊢
  split at h
  · cases h
  · rename_i e
    exact ⟨rfl, rfl⟩
abbrev Ent : Type := Option Cer × Option Cer2 × Nat × List Nat
/-- contracts k, k + 1 ..: each by its certificate, by a splitting of an argument, or by hand (0) -/
def okE (C : List Con) (k : Nat) : Ent → Bool
  | (some e, _, _, _) => !Zf k && okC Zf C k e
  | (none, some e, _, _) => Zf k && okC2 Fl C k e
  | (none, none, p, ks) => if p = 0 then manL.contains k else if Zf k then okX Fl C k p ks else okU Zf C k p ks
def okG (C : List Con) : Nat → List Ent → Bool
  | _, [] => true
  | k, e :: l => okE C k e && okG C (k + 1) l
def AllK (C : List Con) (T : List Kd) (k : Nat) : Prop := (Zf k = false → ConOK C T k) ∧ (Zf k = true → ConOK2 Fl C T k)
theorem okE_ok {C : List Con} {T : List Kd} (hT : ∀ o, 0 < o → o < 213 → T[o]? = some (tyK (tyO o))) (hman : ∀ k, k ∈ manL → (∀ k', k' < k → AllK C T k') → AllK C T k) {k : Nat} {e : Ent} (h : okE C k e = true) (h0 : ∀ i, i < k → AllK C T i) : AllK C T k := by
  have g1 : ∀ i, i < k → Zf i = false → ConOK C T i := fun i hi z => (h0 i hi).1 z
  have g2 : ∀ i, i < k → Zf i = true → ConOK2 Fl C T i := fun i hi z => (h0 i hi).2 z
  match e, h with
  | (some e, _, _, _), h =>
    have h' : (!Zf k && okC Zf C k e) = true := h
    rw [Bool.and_eq_true] at h'
    have hz : Zf k = false := by simpa using h'.1
    exact ⟨fun _ => okC_ok hT h'.2 g1, fun z => absurd (hz.symm.trans z) (by decide)⟩
  | (none, some e, _, _), h =>
    have h' : (Zf k && okC2 Fl C k e) = true := h
    rw [Bool.and_eq_true] at h'
    exact ⟨fun z => absurd (h'.1.symm.trans z) (by decide), fun _ => okC2_ok hT h'.2 g1 g2 Fl_z⟩
  | (none, none, p, ks), h =>
    have h' : (if p = 0 then manL.contains k else if Zf k then okX Fl C k p ks else okU Zf C k p ks) = true := h
    by_cases hp : p = 0
    · rw [if_pos hp] at h'
      exact hman k (List.contains_iff_mem.mp h') h0
    · rw [if_neg hp] at h'
      cases hz : Zf k with
      | true =>
        rw [hz, if_pos rfl] at h'
        exact ⟨fun z => absurd (hz.symm.trans z) (by decide), fun _ => okX_ok h' g2⟩
      | false =>
        rw [hz, if_neg (by decide)] at h'
        exact ⟨fun _ => okU_ok h' g1, fun z => absurd (hz.symm.trans z) (by decide)⟩
theorem okG_ok {C : List Con} {T : List Kd} (hT : ∀ o, 0 < o → o < 213 → T[o]? = some (tyK (tyO o))) (hman : ∀ k, k ∈ manL → (∀ k', k' < k → AllK C T k') → AllK C T k) : ∀ (l : List Ent) (k : Nat), okG C k l = true → (∀ i, i < k → AllK C T i) → ∀ i, i < k + l.length → AllK C T i := by
  intro l
  induction l with
  | nil => intro k _ h0 i hi; exact h0 i hi
  | cons e l ih =>
    intro k h h0 i hi
    rw [List.length_cons] at hi
    have h' : (okE C k e && okG C (k + 1) l) = true := h
    rw [Bool.and_eq_true] at h'
    have step := okE_ok hT hman h'.1 h0
    refine ih (k + 1) h'.2 (fun i hi => ?_) i (by omega)
    by_cases e : i = k
    · rw [e]; exact step
    · exact h0 i (by omega)
