/-! the draft tells the world: the lines of the class exactly -/
theorem r_303_0 : row 303 0 = some (.aload_n 0, 1, 0, 0, 0, 0) := rfl
theorem r_303_1 : row 303 1 = some (.aload_n 1, 2, 0, 0, 0, 0) := rfl
theorem r_303_2 : row 303 2 = some (.getfield 136, 5, 3, 6, 10, 1094) := rfl
theorem r_303_5 : row 303 5 = some (.iconst 5, 6, 5, 0, 0, 0) := rfl
theorem r_303_6 : row 303 6 = some (.invokevirtual 127, 9, 306, 2, 0, 3098) := rfl
theorem r_303_9 : row 303 9 = some (.aload_n 0, 10, 0, 0, 0, 0) := rfl
theorem r_303_10 : row 303 10 = some (.invokevirtual 45, 13, 312, 0, 0, 2237) := rfl
theorem r_303_13 : row 303 13 = some (.aload_n 1, 14, 0, 0, 0, 0) := rfl
theorem r_303_14 : row 303 14 = some (.getfield 139, 17, 3, 10, 12, 1111) := rfl
theorem r_303_17 : row 303 17 = some (.aload_n 1, 18, 0, 0, 0, 0) := rfl
theorem r_303_18 : row 303 18 = some (.getfield 136, 21, 3, 6, 10, 1094) := rfl
theorem r_303_21 : row 303 21 = some (.aload_n 0, 22, 0, 0, 0, 0) := rfl
theorem r_303_22 : row 303 22 = some (.aload_n 1, 23, 0, 0, 0, 0) := rfl
theorem r_303_23 : row 303 23 = some (.invokevirtual 85, 26, 308, 1, 0, 3116) := rfl
theorem r_303_26 : row 303 26 = some (.invokestatic 34, 29, 238, 3, 10, 2215) := rfl
theorem r_303_29 : row 303 29 = some (.aload_n 0, 30, 0, 0, 0, 0) := rfl
theorem r_303_30 : row 303 30 = some (.ldc 142, 32, 1000011, 1, 0, 3121) := rfl
theorem r_303_32 : row 303 32 = some (.invokevirtual 100, 35, 309, 1, 0, 3017) := rfl
theorem r_303_35 : row 303 35 = some (.aload_n 1, 36, 0, 0, 0, 0) := rfl
theorem r_303_36 : row 303 36 = some (.getfield 144, 39, 3, 11, 12, 1115) := rfl
theorem r_303_39 : row 303 39 = some (.aload_n 1, 40, 0, 0, 0, 0) := rfl
theorem r_303_40 : row 303 40 = some (.getfield 136, 43, 3, 6, 10, 1094) := rfl
theorem r_303_43 : row 303 43 = some (.aload_n 0, 44, 0, 0, 0, 0) := rfl
theorem r_303_44 : row 303 44 = some (.iconst 0, 45, 0, 0, 0, 0) := rfl
theorem r_303_45 : row 303 45 = some (.bipush 9, 47, 9, 0, 0, 0) := rfl
theorem r_303_47 : row 303 47 = some (.iconst (-1), 48, (-1), 0, 0, 0) := rfl
theorem r_303_48 : row 303 48 = some (.invokevirtual 106, 51, 310, 3, 0, 3078) := rfl
theorem r_303_51 : row 303 51 = some (.invokestatic 34, 54, 238, 3, 10, 2215) := rfl
theorem r_303_54 : row 303 54 = some (.aload_n 1, 55, 0, 0, 0, 0) := rfl
theorem r_303_55 : row 303 55 = some (.dup, 56, 0, 0, 0, 0) := rfl
theorem r_303_56 : row 303 56 = some (.getfield 136, 59, 3, 6, 10, 1094) := rfl
theorem r_303_59 : row 303 59 = some (.iconst 1, 60, 1, 0, 0, 0) := rfl
theorem r_303_60 : row 303 60 = some (.iadd, 61, 0, 0, 0, 0) := rfl
theorem r_303_61 : row 303 61 = some (.putfield 136, 64, 3, 6, 10, 1094) := rfl
theorem r_303_64 : row 303 64 = some (.return_, 65, 0, 0, 0, 0) := rfl
theorem r_304_0 : row 304 0 = some (.aload_n 0, 1, 0, 0, 0, 0) := rfl
theorem r_304_1 : row 304 1 = some (.aload_n 1, 2, 0, 0, 0, 0) := rfl
theorem r_304_2 : row 304 2 = some (.getfield 147, 5, 3, 7, 10, 1098) := rfl
theorem r_304_5 : row 304 5 = some (.iconst 3, 6, 3, 0, 0, 0) := rfl
theorem r_304_6 : row 304 6 = some (.invokevirtual 127, 9, 306, 2, 0, 3098) := rfl
theorem r_304_9 : row 304 9 = some (.aload_n 0, 10, 0, 0, 0, 0) := rfl
theorem r_304_10 : row 304 10 = some (.invokevirtual 45, 13, 312, 0, 0, 2237) := rfl
theorem r_304_13 : row 304 13 = some (.aload_n 1, 14, 0, 0, 0, 0) := rfl
theorem r_304_14 : row 304 14 = some (.getfield 150, 17, 3, 12, 12, 1119) := rfl
theorem r_304_17 : row 304 17 = some (.aload_n 1, 18, 0, 0, 0, 0) := rfl
theorem r_304_18 : row 304 18 = some (.getfield 147, 21, 3, 7, 10, 1098) := rfl
theorem r_304_21 : row 304 21 = some (.aload_n 0, 22, 0, 0, 0, 0) := rfl
theorem r_304_22 : row 304 22 = some (.aload_n 1, 23, 0, 0, 0, 0) := rfl
theorem r_304_23 : row 304 23 = some (.invokevirtual 85, 26, 308, 1, 0, 3116) := rfl
theorem r_304_26 : row 304 26 = some (.invokestatic 34, 29, 238, 3, 10, 2215) := rfl
theorem r_304_29 : row 304 29 = some (.aload_n 0, 30, 0, 0, 0, 0) := rfl
theorem r_304_30 : row 304 30 = some (.ldc 153, 32, 1000012, 1, 0, 3127) := rfl
theorem r_304_32 : row 304 32 = some (.invokevirtual 100, 35, 309, 1, 0, 3017) := rfl
theorem r_304_35 : row 304 35 = some (.aload_n 1, 36, 0, 0, 0, 0) := rfl
theorem r_304_36 : row 304 36 = some (.getfield 155, 39, 3, 13, 12, 1123) := rfl
theorem r_304_39 : row 304 39 = some (.aload_n 1, 40, 0, 0, 0, 0) := rfl
theorem r_304_40 : row 304 40 = some (.getfield 147, 43, 3, 7, 10, 1098) := rfl
theorem r_304_43 : row 304 43 = some (.aload_n 0, 44, 0, 0, 0, 0) := rfl
theorem r_304_44 : row 304 44 = some (.iconst 0, 45, 0, 0, 0, 0) := rfl
theorem r_304_45 : row 304 45 = some (.bipush 12, 47, 12, 0, 0, 0) := rfl
theorem r_304_47 : row 304 47 = some (.iconst (-1), 48, (-1), 0, 0, 0) := rfl
theorem r_304_48 : row 304 48 = some (.invokevirtual 106, 51, 310, 3, 0, 3078) := rfl
theorem r_304_51 : row 304 51 = some (.invokestatic 34, 54, 238, 3, 10, 2215) := rfl
theorem r_304_54 : row 304 54 = some (.aload_n 1, 55, 0, 0, 0, 0) := rfl
theorem r_304_55 : row 304 55 = some (.dup, 56, 0, 0, 0, 0) := rfl
theorem r_304_56 : row 304 56 = some (.getfield 147, 59, 3, 7, 10, 1098) := rfl
theorem r_304_59 : row 304 59 = some (.iconst 1, 60, 1, 0, 0, 0) := rfl
theorem r_304_60 : row 304 60 = some (.iadd, 61, 0, 0, 0, 0) := rfl
theorem r_304_61 : row 304 61 = some (.putfield 147, 64, 3, 7, 10, 1098) := rfl
theorem r_304_64 : row 304 64 = some (.return_, 65, 0, 0, 0, 0) := rfl
theorem r_305_0 : row 305 0 = some (.aload_n 0, 1, 0, 0, 0, 0) := rfl
theorem r_305_1 : row 305 1 = some (.aload_n 1, 2, 0, 0, 0, 0) := rfl
theorem r_305_2 : row 305 2 = some (.getfield 158, 5, 3, 8, 10, 1102) := rfl
theorem r_305_5 : row 305 5 = some (.iconst 5, 6, 5, 0, 0, 0) := rfl
theorem r_305_6 : row 305 6 = some (.invokevirtual 127, 9, 306, 2, 0, 3098) := rfl
theorem r_305_9 : row 305 9 = some (.aload_n 0, 10, 0, 0, 0, 0) := rfl
theorem r_305_10 : row 305 10 = some (.invokevirtual 45, 13, 312, 0, 0, 2237) := rfl
theorem r_305_13 : row 305 13 = some (.aload_n 1, 14, 0, 0, 0, 0) := rfl
theorem r_305_14 : row 305 14 = some (.getfield 161, 17, 3, 14, 12, 1125) := rfl
theorem r_305_17 : row 305 17 = some (.aload_n 1, 18, 0, 0, 0, 0) := rfl
theorem r_305_18 : row 305 18 = some (.getfield 158, 21, 3, 8, 10, 1102) := rfl
theorem r_305_21 : row 305 21 = some (.aload_n 0, 22, 0, 0, 0, 0) := rfl
theorem r_305_22 : row 305 22 = some (.aload_n 1, 23, 0, 0, 0, 0) := rfl
theorem r_305_23 : row 305 23 = some (.invokevirtual 85, 26, 308, 1, 0, 3116) := rfl
theorem r_305_26 : row 305 26 = some (.invokestatic 34, 29, 238, 3, 10, 2215) := rfl
theorem r_305_29 : row 305 29 = some (.aload_n 0, 30, 0, 0, 0, 0) := rfl
theorem r_305_30 : row 305 30 = some (.ldc 164, 32, 1000013, 1, 0, 3134) := rfl
theorem r_305_32 : row 305 32 = some (.invokevirtual 100, 35, 309, 1, 0, 3017) := rfl
theorem r_305_35 : row 305 35 = some (.aload_n 1, 36, 0, 0, 0, 0) := rfl
theorem r_305_36 : row 305 36 = some (.getfield 166, 39, 3, 15, 12, 1129) := rfl
theorem r_305_39 : row 305 39 = some (.aload_n 1, 40, 0, 0, 0, 0) := rfl
theorem r_305_40 : row 305 40 = some (.getfield 158, 43, 3, 8, 10, 1102) := rfl
theorem r_305_43 : row 305 43 = some (.aload_n 0, 44, 0, 0, 0, 0) := rfl
theorem r_305_44 : row 305 44 = some (.iconst 1, 45, 1, 0, 0, 0) := rfl
theorem r_305_45 : row 305 45 = some (.bipush 99, 47, 99, 0, 0, 0) := rfl
theorem r_305_47 : row 305 47 = some (.iconst (-1), 48, (-1), 0, 0, 0) := rfl
theorem r_305_48 : row 305 48 = some (.invokevirtual 106, 51, 310, 3, 0, 3078) := rfl
theorem r_305_51 : row 305 51 = some (.invokestatic 34, 54, 238, 3, 10, 2215) := rfl
theorem r_305_54 : row 305 54 = some (.aload_n 1, 55, 0, 0, 0, 0) := rfl
theorem r_305_55 : row 305 55 = some (.dup, 56, 0, 0, 0, 0) := rfl
theorem r_305_56 : row 305 56 = some (.getfield 158, 59, 3, 8, 10, 1102) := rfl
theorem r_305_59 : row 305 59 = some (.iconst 1, 60, 1, 0, 0, 0) := rfl
theorem r_305_60 : row 305 60 = some (.iadd, 61, 0, 0, 0, 0) := rfl
theorem r_305_61 : row 305 61 = some (.putfield 158, 64, 3, 8, 10, 1102) := rfl
theorem r_305_64 : row 305 64 = some (.return_, 65, 0, 0, 0, 0) := rfl
theorem r_306_0 : row 306 0 = some (.iload_n 1, 1, 0, 0, 0, 0) := rfl
theorem r_306_1 : row 306 1 = some (.iload_n 2, 2, 0, 0, 0, 0) := rfl
theorem r_306_2 : row 306 2 = some (.if_icmp .lt 8, 5, 10, 0, 0, 0) := rfl
theorem r_306_5 : row 306 5 = some (.aload_n 0, 6, 0, 0, 0, 0) := rfl
theorem r_306_6 : row 306 6 = some (.iconst 3, 7, 3, 0, 0, 0) := rfl
theorem r_306_7 : row 306 7 = some (.invokevirtual 94, 10, 307, 1, 0, 3073) := rfl
theorem r_306_10 : row 306 10 = some (.return_, 11, 0, 0, 0, 0) := rfl
theorem r_308_0 : row 308 0 = some (.aload_n 0, 1, 0, 0, 0, 0) := rfl
theorem r_308_1 : row 308 1 = some (.ldc 169, 3, 1000014, 1, 0, 3120) := rfl
theorem r_308_3 : row 308 3 = some (.invokevirtual 100, 6, 309, 1, 0, 3017) := rfl
theorem r_308_6 : row 308 6 = some (.aload_n 0, 7, 0, 0, 0, 0) := rfl
theorem r_308_7 : row 308 7 = some (.iconst 0, 8, 0, 0, 0, 0) := rfl
theorem r_308_8 : row 308 8 = some (.aload_n 1, 9, 0, 0, 0, 0) := rfl
theorem r_308_9 : row 308 9 = some (.getfield 110, 12, 3, 1, 10, 1071) := rfl
theorem r_308_12 : row 308 12 = some (.iconst 1, 13, 1, 0, 0, 0) := rfl
theorem r_308_13 : row 308 13 = some (.isub, 14, 0, 0, 0, 0) := rfl
theorem r_308_14 : row 308 14 = some (.iconst (-1), 15, (-1), 0, 0, 0) := rfl
theorem r_308_15 : row 308 15 = some (.invokevirtual 106, 18, 310, 3, 0, 3078) := rfl
theorem r_308_18 : row 308 18 = some (.ireturn, 19, 0, 0, 0, 0) := rfl
/-- which places are beside which -/
def BS (f : Nat → Int) (w : Wd) : Prop := ∀ p : Nat, p < 7 → ∃ x : Nat, x < 128 ∧ f p = (x : Int) ∧ ∀ q : Nat, q < 7 → (x / 2 ^ q % 2 = 1 ↔ adjW w p q)
/-- the isle at o tells the world w -/
def IsD (m : Mm) (o : Nat) (w : Wd) : Prop := m o 0 = w 9 ∧ m o 1 = w 0 ∧ m o 2 = w 1 ∧ m o 3 = w 2 ∧ m o 4 = w 3 ∧ m o 5 = w 4 ∧ m o 6 = w 5 ∧ m o 7 = w 6 ∧ m o 8 = w 7 ∧ m o 9 = w 10 ∧ (∀ t : Nat, t < 5 → (t : Int) < w 5 → m (o + 1) t = w (31 + 2 * t) ∧ m (o + 2) t = w (32 + 2 * t)) ∧ (∀ t : Nat, t < 3 → (t : Int) < w 6 → m (o + 3) t = w (41 + 2 * t) ∧ m (o + 4) t = w (42 + 2 * t)) ∧ (∀ t : Nat, t < 5 → (t : Int) < w 7 → m (o + 5) t = w (47 + 2 * t) ∧ m (o + 6) t = w (48 + 2 * t)) ∧ BS (m (o + 7)) w
/-- a world's bounds -/
def WB (w : Wd) : Prop := (0 ≤ w 0 ∧ w 0 ≤ 7) ∧ (0 ≤ w 4 ∧ w 4 ≤ 10) ∧ (0 ≤ w 5 ∧ w 5 ≤ 5) ∧ (0 ≤ w 6 ∧ w 6 ≤ 3) ∧ (0 ≤ w 7 ∧ w 7 ≤ 5) ∧ ∀ k : Nat, k < 10 → (k : Int) < w 4 → 0 ≤ w (11 + 2 * k) ∧ w (11 + 2 * k) < w 0 ∧ 0 ≤ w (12 + 2 * k) ∧ w (12 + 2 * k) < w 0 ∧ ¬ w (11 + 2 * k) = w (12 + 2 * k)
theorem adj_eq {w w' : Wd} (h : ∀ i : Nat, i = 4 ∨ (11 ≤ i ∧ i < 31) → w' i = w i) (a b : Nat) : adjW w' a b ↔ adjW w a b := by
  unfold adjW
  rw [h 4 (Or.inl rfl)]
  constructor
  · rintro ⟨k, h1, h2, h3⟩
    rw [h (11 + 2 * k) (by omega), h (12 + 2 * k) (by omega)] at h3
    exact ⟨k, h1, h2, h3⟩
  · rintro ⟨k, h1, h2, h3⟩
    rw [← h (11 + 2 * k) (by omega), ← h (12 + 2 * k) (by omega)] at h3
    exact ⟨k, h1, h2, h3⟩
theorem BS_eq {f f' : Nat → Int} {w w' : Wd} (b : BS f w) (hf : ∀ p : Nat, p < 7 → f' p = f p) (h : ∀ i : Nat, i = 4 ∨ (11 ≤ i ∧ i < 31) → w' i = w i) : BS f' w' := by
  intro p hp
  obtain ⟨x, h1, h2, h3⟩ := b p hp
  exact ⟨x, h1, (hf p hp).trans h2, fun q hq => (h3 q hq).trans (adj_eq h p q).symm⟩
theorem WB_eq {w w' : Wd} (b : WB w) (h : ∀ i : Nat, (i = 0 ∨ (4 ≤ i ∧ i ≤ 7) ∨ (11 ≤ i ∧ i < 31)) → w' i = w i) : WB w' := by
  unfold WB at *
  rw [h 0 (by omega), h 4 (by omega), h 5 (by omega), h 6 (by omega), h 7 (by omega)]
  refine ⟨b.1, b.2.1, b.2.2.1, b.2.2.2.1, b.2.2.2.2.1, fun k h1 h2 => ?_⟩
  rw [h (11 + 2 * k) (by omega), h (12 + 2 * k) (by omega)]
  exact b.2.2.2.2.2 k h1 h2
theorem IsD_eq {m m' : Mm} {o : Nat} {w : Wd} (h : IsD m o w) (e : ∀ p i : Nat, o ≤ p → p ≤ o + 8 → i < 900 → m' p i = m p i) : IsD m' o w := by
  refine ⟨(e o 0 (by omega) (by omega) (by decide)).trans h.1, (e o 1 (by omega) (by omega) (by decide)).trans h.2.1, (e o 2 (by omega) (by omega) (by decide)).trans h.2.2.1, (e o 3 (by omega) (by omega) (by decide)).trans h.2.2.2.1, (e o 4 (by omega) (by omega) (by decide)).trans h.2.2.2.2.1, (e o 5 (by omega) (by omega) (by decide)).trans h.2.2.2.2.2.1, (e o 6 (by omega) (by omega) (by decide)).trans h.2.2.2.2.2.2.1, (e o 7 (by omega) (by omega) (by decide)).trans h.2.2.2.2.2.2.2.1, (e o 8 (by omega) (by omega) (by decide)).trans h.2.2.2.2.2.2.2.2.1, (e o 9 (by omega) (by omega) (by decide)).trans h.2.2.2.2.2.2.2.2.2.1, fun t h1 h2 => ⟨(e _ _ (by omega) (by omega) (by omega)).trans (h.2.2.2.2.2.2.2.2.2.2.1 t h1 h2).1, (e _ _ (by omega) (by omega) (by omega)).trans (h.2.2.2.2.2.2.2.2.2.2.1 t h1 h2).2⟩, fun t h1 h2 => ⟨(e _ _ (by omega) (by omega) (by omega)).trans (h.2.2.2.2.2.2.2.2.2.2.2.1 t h1 h2).1, (e _ _ (by omega) (by omega) (by omega)).trans (h.2.2.2.2.2.2.2.2.2.2.2.1 t h1 h2).2⟩, fun t h1 h2 => ⟨(e _ _ (by omega) (by omega) (by omega)).trans (h.2.2.2.2.2.2.2.2.2.2.2.2.1 t h1 h2).1, (e _ _ (by omega) (by omega) (by omega)).trans (h.2.2.2.2.2.2.2.2.2.2.2.2.1 t h1 h2).2⟩, BS_eq h.2.2.2.2.2.2.2.2.2.2.2.2.2 (fun p hp => e _ _ (by omega) (by omega) (by omega)) (fun _ _ => rfl)⟩
theorem isd_f1 {m : Mm} {o : Nat} {w : Wd} (h : IsD m o w) (v : Int) : IsD (nu_up m o 1 v) o (upw w 0 v) := by
  refine ⟨((nu_ne (by decide)).trans h.1).trans (upw_ne (by omega)).symm,
  nu_at.trans upw_at.symm,
  ((nu_ne (by decide)).trans h.2.2.1).trans (upw_ne (by omega)).symm,
  ((nu_ne (by decide)).trans h.2.2.2.1).trans (upw_ne (by omega)).symm,
  ((nu_ne (by decide)).trans h.2.2.2.2.1).trans (upw_ne (by omega)).symm,
  ((nu_ne (by decide)).trans h.2.2.2.2.2.1).trans (upw_ne (by omega)).symm,
  ((nu_ne (by decide)).trans h.2.2.2.2.2.2.1).trans (upw_ne (by omega)).symm,
  ((nu_ne (by decide)).trans h.2.2.2.2.2.2.2.1).trans (upw_ne (by omega)).symm,
  ((nu_ne (by decide)).trans h.2.2.2.2.2.2.2.2.1).trans (upw_ne (by omega)).symm,
  ((nu_ne (by decide)).trans h.2.2.2.2.2.2.2.2.2.1).trans (upw_ne (by omega)).symm,
  fun t h1 h2 => by
    have h3 : (t : Int) < w 5 := by rw [upw_ne (by omega)] at h2; exact h2
    exact ⟨((nu_no (by omega)).trans (h.2.2.2.2.2.2.2.2.2.2.1 t h1 h3).1).trans (upw_ne (by omega)).symm, ((nu_no (by omega)).trans (h.2.2.2.2.2.2.2.2.2.2.1 t h1 h3).2).trans (upw_ne (by omega)).symm⟩,
  fun t h1 h2 => by
    have h3 : (t : Int) < w 6 := by rw [upw_ne (by omega)] at h2; exact h2
    exact ⟨((nu_no (by omega)).trans (h.2.2.2.2.2.2.2.2.2.2.2.1 t h1 h3).1).trans (upw_ne (by omega)).symm, ((nu_no (by omega)).trans (h.2.2.2.2.2.2.2.2.2.2.2.1 t h1 h3).2).trans (upw_ne (by omega)).symm⟩,
  fun t h1 h2 => by
    have h3 : (t : Int) < w 7 := by rw [upw_ne (by omega)] at h2; exact h2
    exact ⟨((nu_no (by omega)).trans (h.2.2.2.2.2.2.2.2.2.2.2.2.1 t h1 h3).1).trans (upw_ne (by omega)).symm, ((nu_no (by omega)).trans (h.2.2.2.2.2.2.2.2.2.2.2.2.1 t h1 h3).2).trans (upw_ne (by omega)).symm⟩,
  BS_eq h.2.2.2.2.2.2.2.2.2.2.2.2.2 (fun p hp => nu_no (by omega)) (fun i hi => upw_ne (by omega))⟩
theorem isd_f2 {m : Mm} {o : Nat} {w : Wd} (h : IsD m o w) (v : Int) : IsD (nu_up m o 2 v) o (upw w 1 v) := by
  refine ⟨((nu_ne (by decide)).trans h.1).trans (upw_ne (by omega)).symm,
  ((nu_ne (by decide)).trans h.2.1).trans (upw_ne (by omega)).symm,
  nu_at.trans upw_at.symm,
  ((nu_ne (by decide)).trans h.2.2.2.1).trans (upw_ne (by omega)).symm,
  ((nu_ne (by decide)).trans h.2.2.2.2.1).trans (upw_ne (by omega)).symm,
  ((nu_ne (by decide)).trans h.2.2.2.2.2.1).trans (upw_ne (by omega)).symm,
  ((nu_ne (by decide)).trans h.2.2.2.2.2.2.1).trans (upw_ne (by omega)).symm,
  ((nu_ne (by decide)).trans h.2.2.2.2.2.2.2.1).trans (upw_ne (by omega)).symm,
  ((nu_ne (by decide)).trans h.2.2.2.2.2.2.2.2.1).trans (upw_ne (by omega)).symm,
  ((nu_ne (by decide)).trans h.2.2.2.2.2.2.2.2.2.1).trans (upw_ne (by omega)).symm,
  fun t h1 h2 => by
    have h3 : (t : Int) < w 5 := by rw [upw_ne (by omega)] at h2; exact h2
    exact ⟨((nu_no (by omega)).trans (h.2.2.2.2.2.2.2.2.2.2.1 t h1 h3).1).trans (upw_ne (by omega)).symm, ((nu_no (by omega)).trans (h.2.2.2.2.2.2.2.2.2.2.1 t h1 h3).2).trans (upw_ne (by omega)).symm⟩,
  fun t h1 h2 => by
    have h3 : (t : Int) < w 6 := by rw [upw_ne (by omega)] at h2; exact h2
    exact ⟨((nu_no (by omega)).trans (h.2.2.2.2.2.2.2.2.2.2.2.1 t h1 h3).1).trans (upw_ne (by omega)).symm, ((nu_no (by omega)).trans (h.2.2.2.2.2.2.2.2.2.2.2.1 t h1 h3).2).trans (upw_ne (by omega)).symm⟩,
  fun t h1 h2 => by
    have h3 : (t : Int) < w 7 := by rw [upw_ne (by omega)] at h2; exact h2
    exact ⟨((nu_no (by omega)).trans (h.2.2.2.2.2.2.2.2.2.2.2.2.1 t h1 h3).1).trans (upw_ne (by omega)).symm, ((nu_no (by omega)).trans (h.2.2.2.2.2.2.2.2.2.2.2.2.1 t h1 h3).2).trans (upw_ne (by omega)).symm⟩,
  BS_eq h.2.2.2.2.2.2.2.2.2.2.2.2.2 (fun p hp => nu_no (by omega)) (fun i hi => upw_ne (by omega))⟩
theorem isd_f3 {m : Mm} {o : Nat} {w : Wd} (h : IsD m o w) (v : Int) : IsD (nu_up m o 3 v) o (upw w 2 v) := by
  refine ⟨((nu_ne (by decide)).trans h.1).trans (upw_ne (by omega)).symm,
  ((nu_ne (by decide)).trans h.2.1).trans (upw_ne (by omega)).symm,
  ((nu_ne (by decide)).trans h.2.2.1).trans (upw_ne (by omega)).symm,
  nu_at.trans upw_at.symm,
  ((nu_ne (by decide)).trans h.2.2.2.2.1).trans (upw_ne (by omega)).symm,
  ((nu_ne (by decide)).trans h.2.2.2.2.2.1).trans (upw_ne (by omega)).symm,
  ((nu_ne (by decide)).trans h.2.2.2.2.2.2.1).trans (upw_ne (by omega)).symm,
  ((nu_ne (by decide)).trans h.2.2.2.2.2.2.2.1).trans (upw_ne (by omega)).symm,
  ((nu_ne (by decide)).trans h.2.2.2.2.2.2.2.2.1).trans (upw_ne (by omega)).symm,
  ((nu_ne (by decide)).trans h.2.2.2.2.2.2.2.2.2.1).trans (upw_ne (by omega)).symm,
  fun t h1 h2 => by
    have h3 : (t : Int) < w 5 := by rw [upw_ne (by omega)] at h2; exact h2
    exact ⟨((nu_no (by omega)).trans (h.2.2.2.2.2.2.2.2.2.2.1 t h1 h3).1).trans (upw_ne (by omega)).symm, ((nu_no (by omega)).trans (h.2.2.2.2.2.2.2.2.2.2.1 t h1 h3).2).trans (upw_ne (by omega)).symm⟩,
  fun t h1 h2 => by
    have h3 : (t : Int) < w 6 := by rw [upw_ne (by omega)] at h2; exact h2
    exact ⟨((nu_no (by omega)).trans (h.2.2.2.2.2.2.2.2.2.2.2.1 t h1 h3).1).trans (upw_ne (by omega)).symm, ((nu_no (by omega)).trans (h.2.2.2.2.2.2.2.2.2.2.2.1 t h1 h3).2).trans (upw_ne (by omega)).symm⟩,
  fun t h1 h2 => by
    have h3 : (t : Int) < w 7 := by rw [upw_ne (by omega)] at h2; exact h2
    exact ⟨((nu_no (by omega)).trans (h.2.2.2.2.2.2.2.2.2.2.2.2.1 t h1 h3).1).trans (upw_ne (by omega)).symm, ((nu_no (by omega)).trans (h.2.2.2.2.2.2.2.2.2.2.2.2.1 t h1 h3).2).trans (upw_ne (by omega)).symm⟩,
  BS_eq h.2.2.2.2.2.2.2.2.2.2.2.2.2 (fun p hp => nu_no (by omega)) (fun i hi => upw_ne (by omega))⟩
theorem isd_f4 {m : Mm} {o : Nat} {w : Wd} (h : IsD m o w) (v : Int) : IsD (nu_up m o 4 v) o (upw w 3 v) := by
  refine ⟨((nu_ne (by decide)).trans h.1).trans (upw_ne (by omega)).symm,
  ((nu_ne (by decide)).trans h.2.1).trans (upw_ne (by omega)).symm,
  ((nu_ne (by decide)).trans h.2.2.1).trans (upw_ne (by omega)).symm,
  ((nu_ne (by decide)).trans h.2.2.2.1).trans (upw_ne (by omega)).symm,
  nu_at.trans upw_at.symm,
  ((nu_ne (by decide)).trans h.2.2.2.2.2.1).trans (upw_ne (by omega)).symm,
  ((nu_ne (by decide)).trans h.2.2.2.2.2.2.1).trans (upw_ne (by omega)).symm,
  ((nu_ne (by decide)).trans h.2.2.2.2.2.2.2.1).trans (upw_ne (by omega)).symm,
  ((nu_ne (by decide)).trans h.2.2.2.2.2.2.2.2.1).trans (upw_ne (by omega)).symm,
  ((nu_ne (by decide)).trans h.2.2.2.2.2.2.2.2.2.1).trans (upw_ne (by omega)).symm,
  fun t h1 h2 => by
    have h3 : (t : Int) < w 5 := by rw [upw_ne (by omega)] at h2; exact h2
    exact ⟨((nu_no (by omega)).trans (h.2.2.2.2.2.2.2.2.2.2.1 t h1 h3).1).trans (upw_ne (by omega)).symm, ((nu_no (by omega)).trans (h.2.2.2.2.2.2.2.2.2.2.1 t h1 h3).2).trans (upw_ne (by omega)).symm⟩,
  fun t h1 h2 => by
    have h3 : (t : Int) < w 6 := by rw [upw_ne (by omega)] at h2; exact h2
    exact ⟨((nu_no (by omega)).trans (h.2.2.2.2.2.2.2.2.2.2.2.1 t h1 h3).1).trans (upw_ne (by omega)).symm, ((nu_no (by omega)).trans (h.2.2.2.2.2.2.2.2.2.2.2.1 t h1 h3).2).trans (upw_ne (by omega)).symm⟩,
  fun t h1 h2 => by
    have h3 : (t : Int) < w 7 := by rw [upw_ne (by omega)] at h2; exact h2
    exact ⟨((nu_no (by omega)).trans (h.2.2.2.2.2.2.2.2.2.2.2.2.1 t h1 h3).1).trans (upw_ne (by omega)).symm, ((nu_no (by omega)).trans (h.2.2.2.2.2.2.2.2.2.2.2.2.1 t h1 h3).2).trans (upw_ne (by omega)).symm⟩,
  BS_eq h.2.2.2.2.2.2.2.2.2.2.2.2.2 (fun p hp => nu_no (by omega)) (fun i hi => upw_ne (by omega))⟩
theorem isd_f9 {m : Mm} {o : Nat} {w : Wd} (h : IsD m o w) (v : Int) : IsD (nu_up m o 9 v) o (upw w 10 v) := by
  refine ⟨((nu_ne (by decide)).trans h.1).trans (upw_ne (by omega)).symm,
  ((nu_ne (by decide)).trans h.2.1).trans (upw_ne (by omega)).symm,
  ((nu_ne (by decide)).trans h.2.2.1).trans (upw_ne (by omega)).symm,
  ((nu_ne (by decide)).trans h.2.2.2.1).trans (upw_ne (by omega)).symm,
  ((nu_ne (by decide)).trans h.2.2.2.2.1).trans (upw_ne (by omega)).symm,
  ((nu_ne (by decide)).trans h.2.2.2.2.2.1).trans (upw_ne (by omega)).symm,
  ((nu_ne (by decide)).trans h.2.2.2.2.2.2.1).trans (upw_ne (by omega)).symm,
  ((nu_ne (by decide)).trans h.2.2.2.2.2.2.2.1).trans (upw_ne (by omega)).symm,
  ((nu_ne (by decide)).trans h.2.2.2.2.2.2.2.2.1).trans (upw_ne (by omega)).symm,
  nu_at.trans upw_at.symm,
  fun t h1 h2 => by
    have h3 : (t : Int) < w 5 := by rw [upw_ne (by omega)] at h2; exact h2
    exact ⟨((nu_no (by omega)).trans (h.2.2.2.2.2.2.2.2.2.2.1 t h1 h3).1).trans (upw_ne (by omega)).symm, ((nu_no (by omega)).trans (h.2.2.2.2.2.2.2.2.2.2.1 t h1 h3).2).trans (upw_ne (by omega)).symm⟩,
  fun t h1 h2 => by
    have h3 : (t : Int) < w 6 := by rw [upw_ne (by omega)] at h2; exact h2
    exact ⟨((nu_no (by omega)).trans (h.2.2.2.2.2.2.2.2.2.2.2.1 t h1 h3).1).trans (upw_ne (by omega)).symm, ((nu_no (by omega)).trans (h.2.2.2.2.2.2.2.2.2.2.2.1 t h1 h3).2).trans (upw_ne (by omega)).symm⟩,
  fun t h1 h2 => by
    have h3 : (t : Int) < w 7 := by rw [upw_ne (by omega)] at h2; exact h2
    exact ⟨((nu_no (by omega)).trans (h.2.2.2.2.2.2.2.2.2.2.2.2.1 t h1 h3).1).trans (upw_ne (by omega)).symm, ((nu_no (by omega)).trans (h.2.2.2.2.2.2.2.2.2.2.2.2.1 t h1 h3).2).trans (upw_ne (by omega)).symm⟩,
  BS_eq h.2.2.2.2.2.2.2.2.2.2.2.2.2 (fun p hp => nu_no (by omega)) (fun i hi => upw_ne (by omega))⟩
theorem isd_f0 {m : Mm} {o : Nat} {w : Wd} (h : IsD m o w) (v : Int) : IsD (nu_up m o 0 v) o (upw w 9 v) := by
  refine ⟨nu_at.trans upw_at.symm,
  ((nu_ne (by decide)).trans h.2.1).trans (upw_ne (by omega)).symm,
  ((nu_ne (by decide)).trans h.2.2.1).trans (upw_ne (by omega)).symm,
  ((nu_ne (by decide)).trans h.2.2.2.1).trans (upw_ne (by omega)).symm,
  ((nu_ne (by decide)).trans h.2.2.2.2.1).trans (upw_ne (by omega)).symm,
  ((nu_ne (by decide)).trans h.2.2.2.2.2.1).trans (upw_ne (by omega)).symm,
  ((nu_ne (by decide)).trans h.2.2.2.2.2.2.1).trans (upw_ne (by omega)).symm,
  ((nu_ne (by decide)).trans h.2.2.2.2.2.2.2.1).trans (upw_ne (by omega)).symm,
  ((nu_ne (by decide)).trans h.2.2.2.2.2.2.2.2.1).trans (upw_ne (by omega)).symm,
  ((nu_ne (by decide)).trans h.2.2.2.2.2.2.2.2.2.1).trans (upw_ne (by omega)).symm,
  fun t h1 h2 => by
    have h3 : (t : Int) < w 5 := by rw [upw_ne (by omega)] at h2; exact h2
    exact ⟨((nu_no (by omega)).trans (h.2.2.2.2.2.2.2.2.2.2.1 t h1 h3).1).trans (upw_ne (by omega)).symm, ((nu_no (by omega)).trans (h.2.2.2.2.2.2.2.2.2.2.1 t h1 h3).2).trans (upw_ne (by omega)).symm⟩,
  fun t h1 h2 => by
    have h3 : (t : Int) < w 6 := by rw [upw_ne (by omega)] at h2; exact h2
    exact ⟨((nu_no (by omega)).trans (h.2.2.2.2.2.2.2.2.2.2.2.1 t h1 h3).1).trans (upw_ne (by omega)).symm, ((nu_no (by omega)).trans (h.2.2.2.2.2.2.2.2.2.2.2.1 t h1 h3).2).trans (upw_ne (by omega)).symm⟩,
  fun t h1 h2 => by
    have h3 : (t : Int) < w 7 := by rw [upw_ne (by omega)] at h2; exact h2
    exact ⟨((nu_no (by omega)).trans (h.2.2.2.2.2.2.2.2.2.2.2.2.1 t h1 h3).1).trans (upw_ne (by omega)).symm, ((nu_no (by omega)).trans (h.2.2.2.2.2.2.2.2.2.2.2.2.1 t h1 h3).2).trans (upw_ne (by omega)).symm⟩,
  BS_eq h.2.2.2.2.2.2.2.2.2.2.2.2.2 (fun p hp => nu_no (by omega)) (fun i hi => upw_ne (by omega))⟩
theorem isd_a1 {m : Mm} {o : Nat} {w : Wd} (h : IsD m o w) {c : Nat} (hc : w 5 = (c : Int)) (hm : c < 5) (v : Int) : IsD (nu_up m (o + 1) c v) o (upw w (31 + 2 * c) v) := by
  refine ⟨((nu_no (by omega)).trans h.1).trans (upw_ne (by omega)).symm,
  ((nu_no (by omega)).trans h.2.1).trans (upw_ne (by omega)).symm,
  ((nu_no (by omega)).trans h.2.2.1).trans (upw_ne (by omega)).symm,
  ((nu_no (by omega)).trans h.2.2.2.1).trans (upw_ne (by omega)).symm,
  ((nu_no (by omega)).trans h.2.2.2.2.1).trans (upw_ne (by omega)).symm,
  ((nu_no (by omega)).trans h.2.2.2.2.2.1).trans (upw_ne (by omega)).symm,
  ((nu_no (by omega)).trans h.2.2.2.2.2.2.1).trans (upw_ne (by omega)).symm,
  ((nu_no (by omega)).trans h.2.2.2.2.2.2.2.1).trans (upw_ne (by omega)).symm,
  ((nu_no (by omega)).trans h.2.2.2.2.2.2.2.2.1).trans (upw_ne (by omega)).symm,
  ((nu_no (by omega)).trans h.2.2.2.2.2.2.2.2.2.1).trans (upw_ne (by omega)).symm,
  fun t h1 h2 => by
    have h3 : (t : Int) < w 5 := by rw [upw_ne (by omega)] at h2; exact h2
    exact ⟨((nu_ne (by omega)).trans (h.2.2.2.2.2.2.2.2.2.2.1 t h1 h3).1).trans (upw_ne (by omega)).symm, ((nu_no (by omega)).trans (h.2.2.2.2.2.2.2.2.2.2.1 t h1 h3).2).trans (upw_ne (by omega)).symm⟩,
  fun t h1 h2 => by
    have h3 : (t : Int) < w 6 := by rw [upw_ne (by omega)] at h2; exact h2
    exact ⟨((nu_no (by omega)).trans (h.2.2.2.2.2.2.2.2.2.2.2.1 t h1 h3).1).trans (upw_ne (by omega)).symm, ((nu_no (by omega)).trans (h.2.2.2.2.2.2.2.2.2.2.2.1 t h1 h3).2).trans (upw_ne (by omega)).symm⟩,
  fun t h1 h2 => by
    have h3 : (t : Int) < w 7 := by rw [upw_ne (by omega)] at h2; exact h2
    exact ⟨((nu_no (by omega)).trans (h.2.2.2.2.2.2.2.2.2.2.2.2.1 t h1 h3).1).trans (upw_ne (by omega)).symm, ((nu_no (by omega)).trans (h.2.2.2.2.2.2.2.2.2.2.2.2.1 t h1 h3).2).trans (upw_ne (by omega)).symm⟩,
  BS_eq h.2.2.2.2.2.2.2.2.2.2.2.2.2 (fun p hp => nu_no (by omega)) (fun i hi => upw_ne (by omega))⟩
theorem isd_a2 {m : Mm} {o : Nat} {w : Wd} (h : IsD m o w) {c : Nat} (hc : w 5 = (c : Int)) (hm : c < 5) (v : Int) : IsD (nu_up m (o + 2) c v) o (upw w (32 + 2 * c) v) := by
  refine ⟨((nu_no (by omega)).trans h.1).trans (upw_ne (by omega)).symm,
  ((nu_no (by omega)).trans h.2.1).trans (upw_ne (by omega)).symm,
  ((nu_no (by omega)).trans h.2.2.1).trans (upw_ne (by omega)).symm,
  ((nu_no (by omega)).trans h.2.2.2.1).trans (upw_ne (by omega)).symm,
  ((nu_no (by omega)).trans h.2.2.2.2.1).trans (upw_ne (by omega)).symm,
  ((nu_no (by omega)).trans h.2.2.2.2.2.1).trans (upw_ne (by omega)).symm,
  ((nu_no (by omega)).trans h.2.2.2.2.2.2.1).trans (upw_ne (by omega)).symm,
  ((nu_no (by omega)).trans h.2.2.2.2.2.2.2.1).trans (upw_ne (by omega)).symm,
  ((nu_no (by omega)).trans h.2.2.2.2.2.2.2.2.1).trans (upw_ne (by omega)).symm,
  ((nu_no (by omega)).trans h.2.2.2.2.2.2.2.2.2.1).trans (upw_ne (by omega)).symm,
  fun t h1 h2 => by
    have h3 : (t : Int) < w 5 := by rw [upw_ne (by omega)] at h2; exact h2
    exact ⟨((nu_no (by omega)).trans (h.2.2.2.2.2.2.2.2.2.2.1 t h1 h3).1).trans (upw_ne (by omega)).symm, ((nu_ne (by omega)).trans (h.2.2.2.2.2.2.2.2.2.2.1 t h1 h3).2).trans (upw_ne (by omega)).symm⟩,
  fun t h1 h2 => by
    have h3 : (t : Int) < w 6 := by rw [upw_ne (by omega)] at h2; exact h2
    exact ⟨((nu_no (by omega)).trans (h.2.2.2.2.2.2.2.2.2.2.2.1 t h1 h3).1).trans (upw_ne (by omega)).symm, ((nu_no (by omega)).trans (h.2.2.2.2.2.2.2.2.2.2.2.1 t h1 h3).2).trans (upw_ne (by omega)).symm⟩,
  fun t h1 h2 => by
    have h3 : (t : Int) < w 7 := by rw [upw_ne (by omega)] at h2; exact h2
    exact ⟨((nu_no (by omega)).trans (h.2.2.2.2.2.2.2.2.2.2.2.2.1 t h1 h3).1).trans (upw_ne (by omega)).symm, ((nu_no (by omega)).trans (h.2.2.2.2.2.2.2.2.2.2.2.2.1 t h1 h3).2).trans (upw_ne (by omega)).symm⟩,
  BS_eq h.2.2.2.2.2.2.2.2.2.2.2.2.2 (fun p hp => nu_no (by omega)) (fun i hi => upw_ne (by omega))⟩
theorem isd_c5 {m : Mm} {o : Nat} {w : Wd} (h : IsD m o w) {c : Nat} (hc : w 5 = (c : Int)) (hm : c < 5) (e1 : m (o + 1) c = w (31 + 2 * c)) (e2 : m (o + 2) c = w (32 + 2 * c)) : IsD (nu_up m o 6 ((c : Int) + 1)) o (upw w 5 ((c : Int) + 1)) := by
  refine ⟨((nu_ne (by decide)).trans h.1).trans (upw_ne (by omega)).symm,
  ((nu_ne (by decide)).trans h.2.1).trans (upw_ne (by omega)).symm,
  ((nu_ne (by decide)).trans h.2.2.1).trans (upw_ne (by omega)).symm,
  ((nu_ne (by decide)).trans h.2.2.2.1).trans (upw_ne (by omega)).symm,
  ((nu_ne (by decide)).trans h.2.2.2.2.1).trans (upw_ne (by omega)).symm,
  ((nu_ne (by decide)).trans h.2.2.2.2.2.1).trans (upw_ne (by omega)).symm,
  nu_at.trans upw_at.symm,
  ((nu_ne (by decide)).trans h.2.2.2.2.2.2.2.1).trans (upw_ne (by omega)).symm,
  ((nu_ne (by decide)).trans h.2.2.2.2.2.2.2.2.1).trans (upw_ne (by omega)).symm,
  ((nu_ne (by decide)).trans h.2.2.2.2.2.2.2.2.2.1).trans (upw_ne (by omega)).symm,
  fun t h1 h2 => by
    rw [upw_at] at h2
    rw [nu_no (by omega), nu_no (by omega), upw_ne (by omega), upw_ne (by omega)]
    by_cases e : t = c
    · rw [e]; exact ⟨e1, e2⟩
    · exact h.2.2.2.2.2.2.2.2.2.2.1 t h1 (by omega),
  fun t h1 h2 => by
    have h3 : (t : Int) < w 6 := by rw [upw_ne (by omega)] at h2; exact h2
    exact ⟨((nu_no (by omega)).trans (h.2.2.2.2.2.2.2.2.2.2.2.1 t h1 h3).1).trans (upw_ne (by omega)).symm, ((nu_no (by omega)).trans (h.2.2.2.2.2.2.2.2.2.2.2.1 t h1 h3).2).trans (upw_ne (by omega)).symm⟩,
  fun t h1 h2 => by
    have h3 : (t : Int) < w 7 := by rw [upw_ne (by omega)] at h2; exact h2
    exact ⟨((nu_no (by omega)).trans (h.2.2.2.2.2.2.2.2.2.2.2.2.1 t h1 h3).1).trans (upw_ne (by omega)).symm, ((nu_no (by omega)).trans (h.2.2.2.2.2.2.2.2.2.2.2.2.1 t h1 h3).2).trans (upw_ne (by omega)).symm⟩,
  BS_eq h.2.2.2.2.2.2.2.2.2.2.2.2.2 (fun p hp => nu_no (by omega)) (fun i hi => upw_ne (by omega))⟩
theorem isd_a3 {m : Mm} {o : Nat} {w : Wd} (h : IsD m o w) {c : Nat} (hc : w 6 = (c : Int)) (hm : c < 3) (v : Int) : IsD (nu_up m (o + 3) c v) o (upw w (41 + 2 * c) v) := by
  refine ⟨((nu_no (by omega)).trans h.1).trans (upw_ne (by omega)).symm,
  ((nu_no (by omega)).trans h.2.1).trans (upw_ne (by omega)).symm,
  ((nu_no (by omega)).trans h.2.2.1).trans (upw_ne (by omega)).symm,
  ((nu_no (by omega)).trans h.2.2.2.1).trans (upw_ne (by omega)).symm,
  ((nu_no (by omega)).trans h.2.2.2.2.1).trans (upw_ne (by omega)).symm,
  ((nu_no (by omega)).trans h.2.2.2.2.2.1).trans (upw_ne (by omega)).symm,
  ((nu_no (by omega)).trans h.2.2.2.2.2.2.1).trans (upw_ne (by omega)).symm,
  ((nu_no (by omega)).trans h.2.2.2.2.2.2.2.1).trans (upw_ne (by omega)).symm,
  ((nu_no (by omega)).trans h.2.2.2.2.2.2.2.2.1).trans (upw_ne (by omega)).symm,
  ((nu_no (by omega)).trans h.2.2.2.2.2.2.2.2.2.1).trans (upw_ne (by omega)).symm,
  fun t h1 h2 => by
    have h3 : (t : Int) < w 5 := by rw [upw_ne (by omega)] at h2; exact h2
    exact ⟨((nu_no (by omega)).trans (h.2.2.2.2.2.2.2.2.2.2.1 t h1 h3).1).trans (upw_ne (by omega)).symm, ((nu_no (by omega)).trans (h.2.2.2.2.2.2.2.2.2.2.1 t h1 h3).2).trans (upw_ne (by omega)).symm⟩,
  fun t h1 h2 => by
    have h3 : (t : Int) < w 6 := by rw [upw_ne (by omega)] at h2; exact h2
    exact ⟨((nu_ne (by omega)).trans (h.2.2.2.2.2.2.2.2.2.2.2.1 t h1 h3).1).trans (upw_ne (by omega)).symm, ((nu_no (by omega)).trans (h.2.2.2.2.2.2.2.2.2.2.2.1 t h1 h3).2).trans (upw_ne (by omega)).symm⟩,
  fun t h1 h2 => by
    have h3 : (t : Int) < w 7 := by rw [upw_ne (by omega)] at h2; exact h2
    exact ⟨((nu_no (by omega)).trans (h.2.2.2.2.2.2.2.2.2.2.2.2.1 t h1 h3).1).trans (upw_ne (by omega)).symm, ((nu_no (by omega)).trans (h.2.2.2.2.2.2.2.2.2.2.2.2.1 t h1 h3).2).trans (upw_ne (by omega)).symm⟩,
  BS_eq h.2.2.2.2.2.2.2.2.2.2.2.2.2 (fun p hp => nu_no (by omega)) (fun i hi => upw_ne (by omega))⟩
theorem isd_a4 {m : Mm} {o : Nat} {w : Wd} (h : IsD m o w) {c : Nat} (hc : w 6 = (c : Int)) (hm : c < 3) (v : Int) : IsD (nu_up m (o + 4) c v) o (upw w (42 + 2 * c) v) := by
  refine ⟨((nu_no (by omega)).trans h.1).trans (upw_ne (by omega)).symm,
  ((nu_no (by omega)).trans h.2.1).trans (upw_ne (by omega)).symm,
  ((nu_no (by omega)).trans h.2.2.1).trans (upw_ne (by omega)).symm,
  ((nu_no (by omega)).trans h.2.2.2.1).trans (upw_ne (by omega)).symm,
  ((nu_no (by omega)).trans h.2.2.2.2.1).trans (upw_ne (by omega)).symm,
  ((nu_no (by omega)).trans h.2.2.2.2.2.1).trans (upw_ne (by omega)).symm,
  ((nu_no (by omega)).trans h.2.2.2.2.2.2.1).trans (upw_ne (by omega)).symm,
  ((nu_no (by omega)).trans h.2.2.2.2.2.2.2.1).trans (upw_ne (by omega)).symm,
  ((nu_no (by omega)).trans h.2.2.2.2.2.2.2.2.1).trans (upw_ne (by omega)).symm,
  ((nu_no (by omega)).trans h.2.2.2.2.2.2.2.2.2.1).trans (upw_ne (by omega)).symm,
  fun t h1 h2 => by
    have h3 : (t : Int) < w 5 := by rw [upw_ne (by omega)] at h2; exact h2
    exact ⟨((nu_no (by omega)).trans (h.2.2.2.2.2.2.2.2.2.2.1 t h1 h3).1).trans (upw_ne (by omega)).symm, ((nu_no (by omega)).trans (h.2.2.2.2.2.2.2.2.2.2.1 t h1 h3).2).trans (upw_ne (by omega)).symm⟩,
  fun t h1 h2 => by
    have h3 : (t : Int) < w 6 := by rw [upw_ne (by omega)] at h2; exact h2
    exact ⟨((nu_no (by omega)).trans (h.2.2.2.2.2.2.2.2.2.2.2.1 t h1 h3).1).trans (upw_ne (by omega)).symm, ((nu_ne (by omega)).trans (h.2.2.2.2.2.2.2.2.2.2.2.1 t h1 h3).2).trans (upw_ne (by omega)).symm⟩,
  fun t h1 h2 => by
    have h3 : (t : Int) < w 7 := by rw [upw_ne (by omega)] at h2; exact h2
    exact ⟨((nu_no (by omega)).trans (h.2.2.2.2.2.2.2.2.2.2.2.2.1 t h1 h3).1).trans (upw_ne (by omega)).symm, ((nu_no (by omega)).trans (h.2.2.2.2.2.2.2.2.2.2.2.2.1 t h1 h3).2).trans (upw_ne (by omega)).symm⟩,
  BS_eq h.2.2.2.2.2.2.2.2.2.2.2.2.2 (fun p hp => nu_no (by omega)) (fun i hi => upw_ne (by omega))⟩
theorem isd_c6 {m : Mm} {o : Nat} {w : Wd} (h : IsD m o w) {c : Nat} (hc : w 6 = (c : Int)) (hm : c < 3) (e1 : m (o + 3) c = w (41 + 2 * c)) (e2 : m (o + 4) c = w (42 + 2 * c)) : IsD (nu_up m o 7 ((c : Int) + 1)) o (upw w 6 ((c : Int) + 1)) := by
  refine ⟨((nu_ne (by decide)).trans h.1).trans (upw_ne (by omega)).symm,
  ((nu_ne (by decide)).trans h.2.1).trans (upw_ne (by omega)).symm,
  ((nu_ne (by decide)).trans h.2.2.1).trans (upw_ne (by omega)).symm,
  ((nu_ne (by decide)).trans h.2.2.2.1).trans (upw_ne (by omega)).symm,
  ((nu_ne (by decide)).trans h.2.2.2.2.1).trans (upw_ne (by omega)).symm,
  ((nu_ne (by decide)).trans h.2.2.2.2.2.1).trans (upw_ne (by omega)).symm,
  ((nu_ne (by decide)).trans h.2.2.2.2.2.2.1).trans (upw_ne (by omega)).symm,
  nu_at.trans upw_at.symm,
  ((nu_ne (by decide)).trans h.2.2.2.2.2.2.2.2.1).trans (upw_ne (by omega)).symm,
  ((nu_ne (by decide)).trans h.2.2.2.2.2.2.2.2.2.1).trans (upw_ne (by omega)).symm,
  fun t h1 h2 => by
    have h3 : (t : Int) < w 5 := by rw [upw_ne (by omega)] at h2; exact h2
    exact ⟨((nu_no (by omega)).trans (h.2.2.2.2.2.2.2.2.2.2.1 t h1 h3).1).trans (upw_ne (by omega)).symm, ((nu_no (by omega)).trans (h.2.2.2.2.2.2.2.2.2.2.1 t h1 h3).2).trans (upw_ne (by omega)).symm⟩,
  fun t h1 h2 => by
    rw [upw_at] at h2
    rw [nu_no (by omega), nu_no (by omega), upw_ne (by omega), upw_ne (by omega)]
    by_cases e : t = c
    · rw [e]; exact ⟨e1, e2⟩
    · exact h.2.2.2.2.2.2.2.2.2.2.2.1 t h1 (by omega),
  fun t h1 h2 => by
    have h3 : (t : Int) < w 7 := by rw [upw_ne (by omega)] at h2; exact h2
    exact ⟨((nu_no (by omega)).trans (h.2.2.2.2.2.2.2.2.2.2.2.2.1 t h1 h3).1).trans (upw_ne (by omega)).symm, ((nu_no (by omega)).trans (h.2.2.2.2.2.2.2.2.2.2.2.2.1 t h1 h3).2).trans (upw_ne (by omega)).symm⟩,
  BS_eq h.2.2.2.2.2.2.2.2.2.2.2.2.2 (fun p hp => nu_no (by omega)) (fun i hi => upw_ne (by omega))⟩
theorem isd_a5 {m : Mm} {o : Nat} {w : Wd} (h : IsD m o w) {c : Nat} (hc : w 7 = (c : Int)) (hm : c < 5) (v : Int) : IsD (nu_up m (o + 5) c v) o (upw w (47 + 2 * c) v) := by
  refine ⟨((nu_no (by omega)).trans h.1).trans (upw_ne (by omega)).symm,
  ((nu_no (by omega)).trans h.2.1).trans (upw_ne (by omega)).symm,
  ((nu_no (by omega)).trans h.2.2.1).trans (upw_ne (by omega)).symm,
  ((nu_no (by omega)).trans h.2.2.2.1).trans (upw_ne (by omega)).symm,
  ((nu_no (by omega)).trans h.2.2.2.2.1).trans (upw_ne (by omega)).symm,
  ((nu_no (by omega)).trans h.2.2.2.2.2.1).trans (upw_ne (by omega)).symm,
  ((nu_no (by omega)).trans h.2.2.2.2.2.2.1).trans (upw_ne (by omega)).symm,
  ((nu_no (by omega)).trans h.2.2.2.2.2.2.2.1).trans (upw_ne (by omega)).symm,
  ((nu_no (by omega)).trans h.2.2.2.2.2.2.2.2.1).trans (upw_ne (by omega)).symm,
  ((nu_no (by omega)).trans h.2.2.2.2.2.2.2.2.2.1).trans (upw_ne (by omega)).symm,
  fun t h1 h2 => by
    have h3 : (t : Int) < w 5 := by rw [upw_ne (by omega)] at h2; exact h2
    exact ⟨((nu_no (by omega)).trans (h.2.2.2.2.2.2.2.2.2.2.1 t h1 h3).1).trans (upw_ne (by omega)).symm, ((nu_no (by omega)).trans (h.2.2.2.2.2.2.2.2.2.2.1 t h1 h3).2).trans (upw_ne (by omega)).symm⟩,
  fun t h1 h2 => by
    have h3 : (t : Int) < w 6 := by rw [upw_ne (by omega)] at h2; exact h2
    exact ⟨((nu_no (by omega)).trans (h.2.2.2.2.2.2.2.2.2.2.2.1 t h1 h3).1).trans (upw_ne (by omega)).symm, ((nu_no (by omega)).trans (h.2.2.2.2.2.2.2.2.2.2.2.1 t h1 h3).2).trans (upw_ne (by omega)).symm⟩,
  fun t h1 h2 => by
    have h3 : (t : Int) < w 7 := by rw [upw_ne (by omega)] at h2; exact h2
    exact ⟨((nu_ne (by omega)).trans (h.2.2.2.2.2.2.2.2.2.2.2.2.1 t h1 h3).1).trans (upw_ne (by omega)).symm, ((nu_no (by omega)).trans (h.2.2.2.2.2.2.2.2.2.2.2.2.1 t h1 h3).2).trans (upw_ne (by omega)).symm⟩,
  BS_eq h.2.2.2.2.2.2.2.2.2.2.2.2.2 (fun p hp => nu_no (by omega)) (fun i hi => upw_ne (by omega))⟩
theorem isd_a6 {m : Mm} {o : Nat} {w : Wd} (h : IsD m o w) {c : Nat} (hc : w 7 = (c : Int)) (hm : c < 5) (v : Int) : IsD (nu_up m (o + 6) c v) o (upw w (48 + 2 * c) v) := by
  refine ⟨((nu_no (by omega)).trans h.1).trans (upw_ne (by omega)).symm,
  ((nu_no (by omega)).trans h.2.1).trans (upw_ne (by omega)).symm,
  ((nu_no (by omega)).trans h.2.2.1).trans (upw_ne (by omega)).symm,
  ((nu_no (by omega)).trans h.2.2.2.1).trans (upw_ne (by omega)).symm,
  ((nu_no (by omega)).trans h.2.2.2.2.1).trans (upw_ne (by omega)).symm,
  ((nu_no (by omega)).trans h.2.2.2.2.2.1).trans (upw_ne (by omega)).symm,
  ((nu_no (by omega)).trans h.2.2.2.2.2.2.1).trans (upw_ne (by omega)).symm,
  ((nu_no (by omega)).trans h.2.2.2.2.2.2.2.1).trans (upw_ne (by omega)).symm,
  ((nu_no (by omega)).trans h.2.2.2.2.2.2.2.2.1).trans (upw_ne (by omega)).symm,
  ((nu_no (by omega)).trans h.2.2.2.2.2.2.2.2.2.1).trans (upw_ne (by omega)).symm,
  fun t h1 h2 => by
    have h3 : (t : Int) < w 5 := by rw [upw_ne (by omega)] at h2; exact h2
    exact ⟨((nu_no (by omega)).trans (h.2.2.2.2.2.2.2.2.2.2.1 t h1 h3).1).trans (upw_ne (by omega)).symm, ((nu_no (by omega)).trans (h.2.2.2.2.2.2.2.2.2.2.1 t h1 h3).2).trans (upw_ne (by omega)).symm⟩,
  fun t h1 h2 => by
    have h3 : (t : Int) < w 6 := by rw [upw_ne (by omega)] at h2; exact h2
    exact ⟨((nu_no (by omega)).trans (h.2.2.2.2.2.2.2.2.2.2.2.1 t h1 h3).1).trans (upw_ne (by omega)).symm, ((nu_no (by omega)).trans (h.2.2.2.2.2.2.2.2.2.2.2.1 t h1 h3).2).trans (upw_ne (by omega)).symm⟩,
  fun t h1 h2 => by
    have h3 : (t : Int) < w 7 := by rw [upw_ne (by omega)] at h2; exact h2
    exact ⟨((nu_no (by omega)).trans (h.2.2.2.2.2.2.2.2.2.2.2.2.1 t h1 h3).1).trans (upw_ne (by omega)).symm, ((nu_ne (by omega)).trans (h.2.2.2.2.2.2.2.2.2.2.2.2.1 t h1 h3).2).trans (upw_ne (by omega)).symm⟩,
  BS_eq h.2.2.2.2.2.2.2.2.2.2.2.2.2 (fun p hp => nu_no (by omega)) (fun i hi => upw_ne (by omega))⟩
theorem isd_c7 {m : Mm} {o : Nat} {w : Wd} (h : IsD m o w) {c : Nat} (hc : w 7 = (c : Int)) (hm : c < 5) (e1 : m (o + 5) c = w (47 + 2 * c)) (e2 : m (o + 6) c = w (48 + 2 * c)) : IsD (nu_up m o 8 ((c : Int) + 1)) o (upw w 7 ((c : Int) + 1)) := by
  refine ⟨((nu_ne (by decide)).trans h.1).trans (upw_ne (by omega)).symm,
  ((nu_ne (by decide)).trans h.2.1).trans (upw_ne (by omega)).symm,
  ((nu_ne (by decide)).trans h.2.2.1).trans (upw_ne (by omega)).symm,
  ((nu_ne (by decide)).trans h.2.2.2.1).trans (upw_ne (by omega)).symm,
  ((nu_ne (by decide)).trans h.2.2.2.2.1).trans (upw_ne (by omega)).symm,
  ((nu_ne (by decide)).trans h.2.2.2.2.2.1).trans (upw_ne (by omega)).symm,
  ((nu_ne (by decide)).trans h.2.2.2.2.2.2.1).trans (upw_ne (by omega)).symm,
  ((nu_ne (by decide)).trans h.2.2.2.2.2.2.2.1).trans (upw_ne (by omega)).symm,
  nu_at.trans upw_at.symm,
  ((nu_ne (by decide)).trans h.2.2.2.2.2.2.2.2.2.1).trans (upw_ne (by omega)).symm,
  fun t h1 h2 => by
    have h3 : (t : Int) < w 5 := by rw [upw_ne (by omega)] at h2; exact h2
    exact ⟨((nu_no (by omega)).trans (h.2.2.2.2.2.2.2.2.2.2.1 t h1 h3).1).trans (upw_ne (by omega)).symm, ((nu_no (by omega)).trans (h.2.2.2.2.2.2.2.2.2.2.1 t h1 h3).2).trans (upw_ne (by omega)).symm⟩,
  fun t h1 h2 => by
    have h3 : (t : Int) < w 6 := by rw [upw_ne (by omega)] at h2; exact h2
    exact ⟨((nu_no (by omega)).trans (h.2.2.2.2.2.2.2.2.2.2.2.1 t h1 h3).1).trans (upw_ne (by omega)).symm, ((nu_no (by omega)).trans (h.2.2.2.2.2.2.2.2.2.2.2.1 t h1 h3).2).trans (upw_ne (by omega)).symm⟩,
  fun t h1 h2 => by
    rw [upw_at] at h2
    rw [nu_no (by omega), nu_no (by omega), upw_ne (by omega), upw_ne (by omega)]
    by_cases e : t = c
    · rw [e]; exact ⟨e1, e2⟩
    · exact h.2.2.2.2.2.2.2.2.2.2.2.2.1 t h1 (by omega),
  BS_eq h.2.2.2.2.2.2.2.2.2.2.2.2.2 (fun p hp => nu_no (by omega)) (fun i hi => upw_ne (by omega))⟩
theorem isd_p {m : Mm} {o : Nat} {w : Wd} (h : IsD m o w) {c j : Nat} (hc : w 4 = (c : Int)) (hm : c < 10) (hj : j = 11 + 2 * c ∨ j = 12 + 2 * c) (v : Int) : IsD m o (upw w j v) := by
  refine ⟨h.1.trans (upw_ne (by omega)).symm, h.2.1.trans (upw_ne (by omega)).symm, h.2.2.1.trans (upw_ne (by omega)).symm, h.2.2.2.1.trans (upw_ne (by omega)).symm, h.2.2.2.2.1.trans (upw_ne (by omega)).symm, h.2.2.2.2.2.1.trans (upw_ne (by omega)).symm, h.2.2.2.2.2.2.1.trans (upw_ne (by omega)).symm, h.2.2.2.2.2.2.2.1.trans (upw_ne (by omega)).symm, h.2.2.2.2.2.2.2.2.1.trans (upw_ne (by omega)).symm, h.2.2.2.2.2.2.2.2.2.1.trans (upw_ne (by omega)).symm, fun t h1 h2 => by
    have h3 : (t : Int) < w 5 := by rw [upw_ne (by omega)] at h2; exact h2
    exact ⟨(h.2.2.2.2.2.2.2.2.2.2.1 t h1 h3).1.trans (upw_ne (by omega)).symm, (h.2.2.2.2.2.2.2.2.2.2.1 t h1 h3).2.trans (upw_ne (by omega)).symm⟩, fun t h1 h2 => by
    have h3 : (t : Int) < w 6 := by rw [upw_ne (by omega)] at h2; exact h2
    exact ⟨(h.2.2.2.2.2.2.2.2.2.2.2.1 t h1 h3).1.trans (upw_ne (by omega)).symm, (h.2.2.2.2.2.2.2.2.2.2.2.1 t h1 h3).2.trans (upw_ne (by omega)).symm⟩, fun t h1 h2 => by
    have h3 : (t : Int) < w 7 := by rw [upw_ne (by omega)] at h2; exact h2
    exact ⟨(h.2.2.2.2.2.2.2.2.2.2.2.2.1 t h1 h3).1.trans (upw_ne (by omega)).symm, (h.2.2.2.2.2.2.2.2.2.2.2.2.1 t h1 h3).2.trans (upw_ne (by omega)).symm⟩, fun p hp => ?_⟩
  obtain ⟨x, b1, b2, b3⟩ := h.2.2.2.2.2.2.2.2.2.2.2.2.2 p hp
  refine ⟨x, b1, b2, fun q hq => (b3 q hq).trans ?_⟩
  unfold adjW
  rw [upw_ne (show ¬ 4 = j by omega), hc]
  constructor
  · rintro ⟨k, a1, a2, a3⟩
    refine ⟨k, a1, a2, ?_⟩
    rw [upw_ne (by omega), upw_ne (by omega)]; exact a3
  · rintro ⟨k, a1, a2, a3⟩
    refine ⟨k, a1, a2, ?_⟩
    rw [upw_ne (by omega), upw_ne (by omega)] at a3; exact a3
theorem or_b : ∀ x : Nat, x < 128 → ∀ a : Nat, a < 7 → (if x / 2 ^ a % 2 = 1 then x else x + 2 ^ a) < 128 ∧ ior (x : Int) (ishl 1 (a : Int)) = ((if x / 2 ^ a % 2 = 1 then x else x + 2 ^ a : Nat) : Int) ∧ ∀ q : Nat, q < 7 → ((if x / 2 ^ a % 2 = 1 then x else x + 2 ^ a) / 2 ^ q % 2 = 1 ↔ (x / 2 ^ q % 2 = 1 ∨ q = a)) := by decide +kernel
/-- a path more -/
theorem BS_path {f : Nat → Int} {w : Wd} (b : BS f w) {c a d : Nat} (hc : w 4 = (c : Int)) (hm : c < 10) (ha : a < 7) (hd : d < 7) (had : ¬ a = d) (e1 : w (11 + 2 * c) = (a : Int)) (e2 : w (12 + 2 * c) = (d : Int)) {f' : Nat → Int} (g1 : f' a = ior (f a) (ishl 1 (d : Int))) (g2 : f' d = ior (f d) (ishl 1 (a : Int))) (g3 : ∀ p : Nat, ¬ p = a → ¬ p = d → f' p = f p) : BS f' (upw w 4 ((c : Int) + 1)) := by
  have key : ∀ p q : Nat, adjW (upw w 4 ((c : Int) + 1)) p q ↔ (adjW w p q ∨ (p = a ∧ q = d) ∨ (p = d ∧ q = a)) := by
    intro p q
    unfold adjW
    rw [upw_at, hc]
    constructor
    · rintro ⟨k, a1, a2, a3⟩
      rw [upw_ne (by omega), upw_ne (by omega)] at a3
      by_cases e : k = c
      · right
        rw [e, e1, e2] at a3
        omega
      · exact Or.inl ⟨k, a1, by omega, a3⟩
    · rintro (⟨k, a1, a2, a3⟩ | a3)
      · refine ⟨k, a1, by omega, ?_⟩
        rw [upw_ne (by omega), upw_ne (by omega)]; exact a3
      · refine ⟨c, hm, by omega, ?_⟩
        rw [upw_ne (by omega), upw_ne (by omega), e1, e2]
        omega
  intro p hp
  obtain ⟨x, h1, h2, h3⟩ := b p hp
  by_cases ea : p = a
  · obtain ⟨k1, k2, k3⟩ := or_b x h1 d hd
    refine ⟨_, k1, by rw [ea, g1, ← ea, h2, k2], fun q hq => (k3 q hq).trans ?_⟩
    rw [key, h3 q hq]
    constructor
    · rintro (z | z)
      · exact Or.inl z
      · exact Or.inr (Or.inl ⟨ea, z⟩)
    · rintro (z | z | z)
      · exact Or.inl z
      · exact Or.inr z.2
      · omega
  · by_cases ed : p = d
    · obtain ⟨k1, k2, k3⟩ := or_b x h1 a ha
      refine ⟨_, k1, by rw [ed, g2, ← ed, h2, k2], fun q hq => (k3 q hq).trans ?_⟩
      rw [key, h3 q hq]
      constructor
      · rintro (z | z)
        · exact Or.inl z
        · exact Or.inr (Or.inr ⟨ed, z⟩)
      · rintro (z | z | z)
        · exact Or.inl z
        · omega
        · exact Or.inr z.2
    · refine ⟨x, h1, (g3 p ea ed).trans h2, fun q hq => (h3 q hq).trans ?_⟩
      rw [key]
      constructor
      · exact Or.inl
      · rintro (z | z | z)
        · exact z
        · omega
        · omega
theorem gam_f {m : Mm} {o b : Nat} {x lo hi : Int} (hm : Gam m) (e : cT (tyO o) b = (0, lo, hi)) (h1 : lo ≤ x) (h2 : x ≤ hi) : Gam (nu_up m o b x) := Gam_up hm (by rw [e]; exact (gc_0 rfl).mpr ⟨h1, h2⟩)
section DRAFT
variable {T : List Kd} {X : Nat → Int} {m : Mm}
theorem CC_up {o i : Nat} {x : Int} (h : CC X m) (ho : ¬ o = 2 ∧ ¬ o = 3) (hp : pinF o i = 0) (hg : Gam (nu_up m o i x)) : CC X (nu_up m o i x) := by
  refine ⟨hg, PinR_up h.2.1 hp, ?_⟩
  obtain ⟨n, a1, a2, a3, a4⟩ := h.2.2
  exact ⟨n, a1, (nu_no (fun z => ho.1 z.symm)).trans a2, fun k => by rw [nu_no (fun z => ho.2 z.symm)]; exact a3 k, a4⟩
theorem nu_2o {o i j : Nat} {x : Int} (ho : ¬ o = 2) : nu_up m o i x 2 j = m 2 j := nu_no (fun z => ho z.symm)
theorem k_306n (hT : TT T) {a b : Int} (h : a < b) : GX T 1 306 0 [(2, 2), (0, a), (0, b)] [] m (RV (fun m1 => m1 = m)) := by
  refine gx_st (L' := [(2, 2), (0, a), (0, b)]) (S' := [(0, a)]) r_306_0 rfl rfl rfl ?_
  refine gx_st (L' := [(2, 2), (0, a), (0, b)]) (S' := [(0, b), (0, a)]) r_306_1 rfl rfl rfl ?_
  refine gx_ic (P := a < b) r_306_2 (rfl) (fun h2 => ?_) (fun h2 => ?_)
  · exact gx_rt r_306_10 rfl rfl ⟨rfl, rfl⟩
  · omega
theorem k_306b (hT : TT T) {r : PR} (h : CR X m r) {a b : Int} (hab : b ≤ a) : GX T 1 306 0 [(2, 2), (0, a), (0, b)] [] m (RV (fun m1 => CR X m1 (pErr X 3 r) ∧ Fr [2002, 2003] m m1)) := by
  refine gx_st (L' := [(2, 2), (0, a), (0, b)]) (S' := [(0, a)]) r_306_0 rfl rfl rfl ?_
  refine gx_st (L' := [(2, 2), (0, a), (0, b)]) (S' := [(0, b), (0, a)]) r_306_1 rfl rfl rfl ?_
  refine gx_ic (P := a < b) r_306_2 (rfl) (fun h2 => ?_) (fun h2 => ?_)
  · omega
  · refine gx_st (L' := [(2, 2), (0, a), (0, b)]) (S' := [(2, 2)]) r_306_5 rfl rfl rfl ?_
    refine gx_st (L' := [(2, 2), (0, a), (0, b)]) (S' := [(0, 3), (2, 2)]) r_306_6 rfl rfl rfl ?_
    refine gx_cv (nx := 10) (S2 := []) (k_307 hT h (k := 3) (by decide) (by decide)) r_306_7 rfl rfl rfl rfl rfl (rcv_v rfl (ty_2 hT) (by decide) rfl (by decide)) rfl (by decide) rfl (fun n7 q7 => ?_)
    exact gx_rt r_306_10 rfl rfl ⟨rfl, q7⟩
theorem d_308 {P : Mm → Wd → Prop} (hP : Ind P) (hT : TT T) (hx : XOK X) {r : PR} (h : CD P X m r) {n0 : Int} (hn : m 13 1 = n0) (hn1 : 0 ≤ n0) (hn2 : n0 ≤ 7) : GX T 4 308 0 [(2, 2), (2, 13)] [] m (RI (fun v m1 => (CV P X m1 v (pNumU X 0 (n0 - 1) (-1) (pNeed X 14 r)) ∧ (v = 0 ∨ (0 ≤ v ∧ v ≤ n0 - 1 ∧ ¬ v = -1))) ∧ Fr [2002, 2003, 2004, 2005, 2006] m m1)) := by
  refine gx_st (L' := [(2, 2), (2, 13)]) (S' := [(2, 2)]) r_308_0 rfl rfl rfl ?_
  refine gx_st (L' := [(2, 2), (2, 13)]) (S' := [(2, 1000014), (2, 2)]) r_308_1 rfl rfl rfl ?_
  refine gx_cv (nx := 6) (S2 := []) (d_309 hP hT hx h (q := 14) (by decide) rfl sl_14) r_308_3 rfl rfl rfl rfl rfl (rcv_v rfl (ty_2 hT) (by decide) rfl (by decide)) rfl (by decide) rfl (fun n3 q3 => ?_)
  have e_n0 : n3 13 1 = n0 := (q3.2 13 1 rfl).trans hn
  refine gx_st (L' := [(2, 2), (2, 13)]) (S' := [(2, 2)]) r_308_6 rfl rfl rfl ?_
  refine gx_st (L' := [(2, 2), (2, 13)]) (S' := [(0, 0), (2, 2)]) r_308_7 rfl rfl rfl ?_
  refine gx_st (L' := [(2, 2), (2, 13)]) (S' := [(2, 13), (0, 0), (2, 2)]) r_308_8 rfl rfl rfl ?_
  refine gx_gf (x := n0) 0 r_308_9 (rfl) (ty_13 hT) ⟨by decide, rfl, by decide, by decide⟩ rfl (fun z => absurd z (by decide)) (e_n0) ?_
  refine gx_st (L' := [(2, 2), (2, 13)]) (S' := [(0, 1), (0, n0), (0, 0), (2, 2)]) r_308_12 rfl rfl rfl ?_
  refine gx_ar (L' := [(2, 2), (2, 13)]) (S' := [(0, 0), (2, 2)]) (t := 0) (e := w32 (n0 - 1)) (z := n0 - 1) r_308_13 rfl rfl rfl (w32_eq (by omega) (by omega) (by omega)) ?_
  refine gx_st (L' := [(2, 2), (2, 13)]) (S' := [(0, (-1)), (0, n0 - 1), (0, 0), (2, 2)]) r_308_14 rfl rfl rfl ?_
  refine gx_ci (nx := 18) (S2 := []) (d_310 hP hT hx q3.1.1 (lo := 0) (hi := n0 - 1) (u := -1) (by omega) (by decide) q3.1.2) r_308_15 rfl rfl rfl rfl rfl (rcv_v rfl (ty_2 hT) (by decide) rfl (by decide)) rfl (by decide) rfl (fun x15 n15 q15 => ?_)
  show GX T 4 308 18 [(2, 2), (2, 13)] [(0, x15)] n15 (RI (fun v m1 => (CV P X m1 v (pNumU X 0 (n0 - 1) (-1) (pNeed X 14 r)) ∧ (v = 0 ∨ (0 ≤ v ∧ v ≤ n0 - 1 ∧ ¬ v = -1))) ∧ Fr [2002, 2003, 2004, 2005, 2006] m m1))
  exact gx_rt r_308_18 rfl rfl ⟨_, rfl, q15.1, Fr_tr q3.2 q15.2⟩
theorem gq_ar {t : Nat} (h1 : 0 < t) (h2 : t < 213) {q : Int} (h3 : (tyO t : Int) = q) : gq0 (2, q, 0) (2, (t : Int)) := (gq_2 rfl).mpr ⟨rfl, by show (0 : Int) < (t : Int); omega, by show (t : Int) < 213; omega, h3⟩
theorem at_eq {k k' many q c : Nat} {lo hi n0 : Int} {r : PR} (hk' : k' = k + 1) (hl : 0 ≤ lo) (h0 : ∀ g, pNeed X 14 r = .ok g → g.2 0 = n0) : pAt X k many q lo hi c r = ((pSet k' (pNumU X lo hi (-1) (pNeed X q (pSet k (pNumU X 0 (n0 - 1) (-1) (pNeed X 14 r)))))).bind fun g => .ok (g.1, upw g.2 many ((c : Int) + 1))) := by
  subst hk'
  unfold pAt
  rw [numU_eq hl, numU_eq (by decide)]
  have e : pPl X (pNeed X 14 r) = pNum X 0 (n0 - 1) (pNeed X 14 r) := by
    revert h0
    generalize pNeed X 14 r = r1
    intro h0
    cases r1 with
    | error z => rfl
    | ok g => show pNum X 0 (g.2 0 - 1) (.ok g) = _; rw [h0 g rfl]
  rw [e]
set_option maxRecDepth 100000 in
theorem cu_196 : conL[196]? = some (238, [(2, 14, 0), (0, (-2147483648), 2147483647), (0, (-2147483648), 2147483647)], (9, 0, 0), [14999], 0) := rfl
theorem pu_196 (hT : TT T) : ConH T (238, [(2, 14, 0), (0, (-2147483648), 2147483647), (0, (-2147483648), 2147483647)], (9, 0, 0), [14999], 0) := fun args m => ((all_con hT 196).1 (by decide)) _ cu_196 args m
set_option maxRecDepth 100000 in
theorem cu_200 : conL[200]? = some (238, [(2, 15, 0), (0, (-2147483648), 2147483647), (0, (-2147483648), 2147483647)], (9, 0, 0), [15999], 0) := rfl
theorem pu_200 (hT : TT T) : ConH T (238, [(2, 15, 0), (0, (-2147483648), 2147483647), (0, (-2147483648), 2147483647)], (9, 0, 0), [15999], 0) := fun args m => ((all_con hT 200).1 (by decide)) _ cu_200 args m
theorem d_303 (hT : TT T) (hx : XOK X) {p : Nat} {w : Wd} (h : CD (fun m w => IsD m 13 w ∧ WB w) X m (.ok (p, w))) {c : Nat} (hc : w 5 = (c : Int)) (hcm : c < 5) : GX T 5 303 0 [(2, 2), (2, 13)] [] m (RV (fun m1 => CD (fun m w => IsD m 13 w ∧ WB w) X m1 (pAt X (31 + 2 * c) 5 11 0 9 c (.ok (nE X p, w))) ∧ Fr [2002, 2003, 2004, 2005, 2006, 13001, 13002, 13003, 13004, 13005, 13006, 13007, 13008, 13009, 14999, 15999, 16999, 17999, 18999, 19999, 20999, 21999] m m1)) := by
  have hpw := h.2 (p, w) rfl
  have c6 : m 13 6 = (c : Int) := (hpw.1.2.2.2.2.2.2.1).trans hc
  obtain ⟨n0, e0⟩ : ∃ n0, w 0 = n0 := ⟨_, rfl⟩
  have c1 : m 13 1 = n0 := hpw.1.2.1.trans e0
  have bn0 : 0 ≤ w 0 ∧ w 0 ≤ 7 := hpw.2.1
  rw [e0] at bn0
  have h0 := h
  have h : CD (fun m w => IsD m 13 w ∧ WB w ∧ w 5 = (c : Int)) X m (.ok (p, w)) := CD_mono h0 (fun w2 z => ⟨z.1, z.2, by
    have := z.1
    rw [← c6]
    exact (this.2.2.2.2.2.2.1).symm⟩)
  refine gx_st (L' := [(2, 2), (2, 13)]) (S' := [(2, 2)]) r_303_0 rfl rfl rfl ?_
  refine gx_st (L' := [(2, 2), (2, 13)]) (S' := [(2, 13), (2, 2)]) r_303_1 rfl rfl rfl ?_
  refine gx_gf (x := (c : Int)) 0 r_303_2 (rfl) (ty_13 hT) ⟨by decide, rfl, by decide, by decide⟩ rfl (fun z => absurd z (by decide)) (c6) ?_
  refine gx_st (L' := [(2, 2), (2, 13)]) (S' := [(0, 5), (0, (c : Int)), (2, 2)]) r_303_5 rfl rfl rfl ?_
  refine gx_cv (nx := 9) (S2 := []) (k_306n hT (by omega)) r_303_6 rfl rfl rfl rfl rfl (rcv_v rfl (ty_2 hT) (by decide) rfl (by decide)) rfl (by decide) rfl (fun n6 q6 => ?_)
  obtain rfl := q6.symm
  refine gx_st (L' := [(2, 2), (2, 13)]) (S' := [(2, 2)]) r_303_9 rfl rfl rfl ?_
  refine gx_cv (nx := 13) (S2 := []) (d_312 (P := (fun m w => IsD m 13 w ∧ WB w ∧ w 5 = (c : Int))) (fun m m2 w e h => ⟨IsD_eq h.1 (fun p i _ _ hi => e p i (by omega) (by omega) hi), h.2⟩) hT hx h) r_303_10 rfl rfl rfl rfl rfl (rcv_v rfl (ty_2 hT) (by decide) rfl (by decide)) rfl (by decide) rfl (fun n10 q10 => ?_)
  have c6_n10 : n10 13 6 = (c : Int) := (q10.2 13 6 rfl).trans c6
  have c1_n10 : n10 13 1 = n0 := (q10.2 13 1 rfl).trans c1
  have f_n10 : Fr [2002, 2003, 2004, 2005, 2006, 13001, 13002, 13003, 13004, 13005, 13006, 13007, 13008, 13009, 14999, 15999, 16999, 17999, 18999, 19999, 20999, 21999] m n10 := Fr_tr Fr_rf (Fr_sub q10.2 (by decide))
  refine gx_st (L' := [(2, 2), (2, 13)]) (S' := [(2, 13)]) r_303_13 rfl rfl rfl ?_
  refine gx_gf (x := 14) 2 r_303_14 (rfl) (ty_13 hT) ⟨by decide, rfl, by decide, by decide⟩ rfl (fun _ => by omega) (pin_at q10.1.1.1.2.1 (t := 14) rfl (by decide)) ?_
  refine gx_st (L' := [(2, 2), (2, 13)]) (S' := [(2, 13), (2, 14)]) r_303_17 rfl rfl rfl ?_
  refine gx_gf (x := (c : Int)) 0 r_303_18 (rfl) (ty_13 hT) ⟨by decide, rfl, by decide, by decide⟩ rfl (fun z => absurd z (by decide)) (c6_n10) ?_
  refine gx_st (L' := [(2, 2), (2, 13)]) (S' := [(2, 2), (0, (c : Int)), (2, 14)]) r_303_21 rfl rfl rfl ?_
  refine gx_st (L' := [(2, 2), (2, 13)]) (S' := [(2, 13), (2, 2), (0, (c : Int)), (2, 14)]) r_303_22 rfl rfl rfl ?_
  refine gx_ci (nx := 26) (S2 := [(0, (c : Int)), (2, 14)]) (d_308 (P := (fun m w => IsD m 13 w ∧ WB w ∧ w 5 = (c : Int))) (fun m m2 w e h => ⟨IsD_eq h.1 (fun p i _ _ hi => e p i (by omega) (by omega) hi), h.2⟩) hT hx q10.1 (n0 := n0) c1_n10 (by omega) (by omega)) r_303_23 rfl rfl rfl rfl rfl (rcv_v rfl (ty_2 hT) (by decide) rfl (by decide)) rfl (by decide) rfl (fun x23 n23 q23 => ?_)
  show GX T 5 303 26 [(2, 2), (2, 13)] [(0, x23), (0, (c : Int)), (2, 14)] n23 (RV (fun m1 => CD (fun m w => IsD m 13 w ∧ WB w) X m1 (pAt X (31 + 2 * c) 5 11 0 9 c (.ok (nE X p, w))) ∧ Fr [2002, 2003, 2004, 2005, 2006, 13001, 13002, 13003, 13004, 13005, 13006, 13007, 13008, 13009, 14999, 15999, 16999, 17999, 18999, 19999, 20999, 21999] m m1))
  have c6_n23 : n23 13 6 = (c : Int) := (q23.2 13 6 rfl).trans c6_n10
  have c1_n23 : n23 13 1 = n0 := (q23.2 13 1 rfl).trans c1_n10
  have f_n23 : Fr [2002, 2003, 2004, 2005, 2006, 13001, 13002, 13003, 13004, 13005, 13006, 13007, 13008, 13009, 14999, 15999, 16999, 17999, 18999, 19999, 20999, 21999] m n23 := Fr_tr f_n10 (Fr_sub q23.2 (by decide))
  have v_n23 := q23.1.2
  have cc_n23 : CC X n23 := by
    have z := q23.1.1.1
    revert z
    generalize pNumU X 0 (n0 - 1) (-1) (pNeed X 14 _) = r9
    intro z
    cases r9 with
    | error e => exact z.2.1
    | ok g => exact z.2.1
  refine gx_cv (nx := 29) (S2 := []) (gx_av (c_238 (r := 14) (n := 5) (ty_14 hT) (by decide) (by decide) (k := c) (by omega) x23) (gx_hv (args := [(2, 14), (0, (c : Int)), (0, x23)]) (pu_196 hT) ⟨gq_ar (t := 14) (by decide) (by decide) rfl, gq_any (by omega) (by omega), gq_any (by omega) (by omega), trivial⟩ cc_n23.1 rfl)) r_303_26 rfl rfl rfl rfl rfl rfl rfl (by decide) rfl (fun n26 q26 => ?_)
  have c6_n26 : n26 13 6 = (c : Int) := (q26.2.2 13 6 rfl).trans c6_n23
  have c1_n26 : n26 13 1 = n0 := (q26.2.2 13 1 rfl).trans c1_n23
  have f_n26 : Fr [2002, 2003, 2004, 2005, 2006, 13001, 13002, 13003, 13004, 13005, 13006, 13007, 13008, 13009, 14999, 15999, 16999, 17999, 18999, 19999, 20999, 21999] m n26 := Fr_tr f_n23 (Fr_sub q26.2.2 (by decide))
  have cc_n26 : CC X n26 := CC_fr cc_n23 q26.2.2 q26.2.1 (by decide) (by decide) (by decide)
  have cd_n26 := CD_put (P := (fun m w => IsD m 13 w ∧ WB w ∧ w 5 = (c : Int))) (P' := (fun m w => (IsD m 13 w ∧ WB w ∧ w 5 = (c : Int)) ∧ m 14 c = w (31 + 2 * c))) (i := 31 + 2 * c) q23.1.1 cc_n26 (fun i => by rw [q26.1]; exact nu_2o (by decide)) (fun w h => by
    rw [q26.1]
    exact ⟨⟨isd_a1 (o := 13) h.1 h.2.2 (by omega) _, WB_eq h.2.1 (fun i hi => upw_ne (by omega)), (upw_ne (by omega)).trans h.2.2⟩, nu_at.trans upw_at.symm⟩)
  refine gx_st (L' := [(2, 2), (2, 13)]) (S' := [(2, 2)]) r_303_29 rfl rfl rfl ?_
  refine gx_st (L' := [(2, 2), (2, 13)]) (S' := [(2, 1000011), (2, 2)]) r_303_30 rfl rfl rfl ?_
  refine gx_cv (nx := 35) (S2 := []) (d_309 (P := (fun m w => (IsD m 13 w ∧ WB w ∧ w 5 = (c : Int)) ∧ m 14 c = w (31 + 2 * c))) (fun m m2 w e h => ⟨⟨IsD_eq h.1.1 (fun p i _ _ hi => e p i (by omega) (by omega) hi), h.1.2⟩, (e 14 c (by decide) (by decide) (by omega)).trans h.2⟩) hT hx cd_n26 (q := 11) (by decide) rfl sl_11) r_303_32 rfl rfl rfl rfl rfl (rcv_v rfl (ty_2 hT) (by decide) rfl (by decide)) rfl (by decide) rfl (fun n32 q32 => ?_)
  have c6_n32 : n32 13 6 = (c : Int) := (q32.2 13 6 rfl).trans c6_n26
  have c1_n32 : n32 13 1 = n0 := (q32.2 13 1 rfl).trans c1_n26
  have f_n32 : Fr [2002, 2003, 2004, 2005, 2006, 13001, 13002, 13003, 13004, 13005, 13006, 13007, 13008, 13009, 14999, 15999, 16999, 17999, 18999, 19999, 20999, 21999] m n32 := Fr_tr f_n26 (Fr_sub q32.2 (by decide))
  refine gx_st (L' := [(2, 2), (2, 13)]) (S' := [(2, 13)]) r_303_35 rfl rfl rfl ?_
  refine gx_gf (x := 15) 2 r_303_36 (rfl) (ty_13 hT) ⟨by decide, rfl, by decide, by decide⟩ rfl (fun _ => by omega) (pin_at q32.1.1.1.2.1 (t := 15) rfl (by decide)) ?_
  refine gx_st (L' := [(2, 2), (2, 13)]) (S' := [(2, 13), (2, 15)]) r_303_39 rfl rfl rfl ?_
  refine gx_gf (x := (c : Int)) 0 r_303_40 (rfl) (ty_13 hT) ⟨by decide, rfl, by decide, by decide⟩ rfl (fun z => absurd z (by decide)) (c6_n32) ?_
  refine gx_st (L' := [(2, 2), (2, 13)]) (S' := [(2, 2), (0, (c : Int)), (2, 15)]) r_303_43 rfl rfl rfl ?_
  refine gx_st (L' := [(2, 2), (2, 13)]) (S' := [(0, 0), (2, 2), (0, (c : Int)), (2, 15)]) r_303_44 rfl rfl rfl ?_
  refine gx_st (L' := [(2, 2), (2, 13)]) (S' := [(0, 9), (0, 0), (2, 2), (0, (c : Int)), (2, 15)]) r_303_45 rfl rfl rfl ?_
  refine gx_st (L' := [(2, 2), (2, 13)]) (S' := [(0, (-1)), (0, 9), (0, 0), (2, 2), (0, (c : Int)), (2, 15)]) r_303_47 rfl rfl rfl ?_
  refine gx_ci (nx := 51) (S2 := [(0, (c : Int)), (2, 15)]) (d_310 (P := (fun m w => (IsD m 13 w ∧ WB w ∧ w 5 = (c : Int)) ∧ m 14 c = w (31 + 2 * c))) (fun m m2 w e h => ⟨⟨IsD_eq h.1.1 (fun p i _ _ hi => e p i (by omega) (by omega) hi), h.1.2⟩, (e 14 c (by decide) (by decide) (by omega)).trans h.2⟩) hT hx q32.1.1 (lo := 0) (hi := 9) (u := -1) (by decide) (by decide) q32.1.2) r_303_48 rfl rfl rfl rfl rfl (rcv_v rfl (ty_2 hT) (by decide) rfl (by decide)) rfl (by decide) rfl (fun x48 n48 q48 => ?_)
  show GX T 5 303 51 [(2, 2), (2, 13)] [(0, x48), (0, (c : Int)), (2, 15)] n48 (RV (fun m1 => CD (fun m w => IsD m 13 w ∧ WB w) X m1 (pAt X (31 + 2 * c) 5 11 0 9 c (.ok (nE X p, w))) ∧ Fr [2002, 2003, 2004, 2005, 2006, 13001, 13002, 13003, 13004, 13005, 13006, 13007, 13008, 13009, 14999, 15999, 16999, 17999, 18999, 19999, 20999, 21999] m m1))
  have c6_n48 : n48 13 6 = (c : Int) := (q48.2 13 6 rfl).trans c6_n32
  have c1_n48 : n48 13 1 = n0 := (q48.2 13 1 rfl).trans c1_n32
  have f_n48 : Fr [2002, 2003, 2004, 2005, 2006, 13001, 13002, 13003, 13004, 13005, 13006, 13007, 13008, 13009, 14999, 15999, 16999, 17999, 18999, 19999, 20999, 21999] m n48 := Fr_tr f_n32 (Fr_sub q48.2 (by decide))
  have v_n48 := q48.1.2
  have cc_n48 : CC X n48 := by
    have z := q48.1.1.1
    revert z
    generalize pNumU X 0 9 (-1) _ = r9
    intro z
    cases r9 with
    | error e => exact z.2.1
    | ok g => exact z.2.1
  refine gx_cv (nx := 54) (S2 := []) (gx_av (c_238 (r := 15) (n := 5) (ty_15 hT) (by decide) (by decide) (k := c) (by omega) x48) (gx_hv (args := [(2, 15), (0, (c : Int)), (0, x48)]) (pu_200 hT) ⟨gq_ar (t := 15) (by decide) (by decide) rfl, gq_any (by omega) (by omega), gq_any (by omega) (by omega), trivial⟩ cc_n48.1 rfl)) r_303_51 rfl rfl rfl rfl rfl rfl rfl (by decide) rfl (fun n51 q51 => ?_)
  have c6_n51 : n51 13 6 = (c : Int) := (q51.2.2 13 6 rfl).trans c6_n48
  have c1_n51 : n51 13 1 = n0 := (q51.2.2 13 1 rfl).trans c1_n48
  have f_n51 : Fr [2002, 2003, 2004, 2005, 2006, 13001, 13002, 13003, 13004, 13005, 13006, 13007, 13008, 13009, 14999, 15999, 16999, 17999, 18999, 19999, 20999, 21999] m n51 := Fr_tr f_n48 (Fr_sub q51.2.2 (by decide))
  have cc_n51 : CC X n51 := CC_fr cc_n48 q51.2.2 q51.2.1 (by decide) (by decide) (by decide)
  have cd_n51 := CD_put (P := (fun m w => (IsD m 13 w ∧ WB w ∧ w 5 = (c : Int)) ∧ m 14 c = w (31 + 2 * c))) (P' := (fun m w => ((IsD m 13 w ∧ WB w ∧ w 5 = (c : Int)) ∧ m 14 c = w (31 + 2 * c)) ∧ m 15 c = w (32 + 2 * c))) (i := 32 + 2 * c) q48.1.1 cc_n51 (fun i => by rw [q51.1]; exact nu_2o (by decide)) (fun w h => by
    rw [q51.1]
    exact ⟨⟨⟨isd_a2 (o := 13) h.1.1 h.1.2.2 (by omega) _, WB_eq h.1.2.1 (fun i hi => upw_ne (by omega)), (upw_ne (by omega)).trans h.1.2.2⟩, ((nu_no (by decide)).trans h.2).trans (upw_ne (by omega)).symm⟩, nu_at.trans upw_at.symm⟩)
  refine gx_st (L' := [(2, 2), (2, 13)]) (S' := [(2, 13)]) r_303_54 rfl rfl rfl ?_
  refine gx_st (L' := [(2, 2), (2, 13)]) (S' := [(2, 13), (2, 13)]) r_303_55 rfl rfl rfl ?_
  refine gx_gf (x := (c : Int)) 0 r_303_56 (rfl) (ty_13 hT) ⟨by decide, rfl, by decide, by decide⟩ rfl (fun z => absurd z (by decide)) (c6_n51) ?_
  refine gx_st (L' := [(2, 2), (2, 13)]) (S' := [(0, 1), (0, (c : Int)), (2, 13)]) r_303_59 rfl rfl rfl ?_
  refine gx_ar (L' := [(2, 2), (2, 13)]) (S' := [(2, 13)]) (t := 0) (e := w32 ((c : Int) + 1)) (z := (c : Int) + 1) r_303_60 rfl rfl rfl (w32_eq (by omega) (by omega) (by omega)) ?_
  obtain ⟨m1, e_m1⟩ : ∃ z, z = nu_up n51 13 6 ((c : Int) + 1) := ⟨_, rfl⟩
  refine gx_pf (x := (c : Int) + 1) 0 r_303_61 (rfl) (ty_13 hT) ⟨by decide, rfl, by decide, by decide⟩ rfl (fun z => absurd z (by decide)) (fun z => absurd z (by decide)) e_m1.symm ?_
  have hgm : Gam m1 := by rw [e_m1]; exact gam_f cc_n51.1 rfl (by omega) (by omega)
  have ccm : CC X m1 := by rw [e_m1]; exact CC_up cc_n51 (by decide) rfl (by rw [← e_m1]; exact hgm)
  have cdm := CD_up (P := (fun m w => ((IsD m 13 w ∧ WB w ∧ w 5 = (c : Int)) ∧ m 14 c = w (31 + 2 * c)) ∧ m 15 c = w (32 + 2 * c))) (P' := (fun m w => IsD m 13 w ∧ WB w)) (i := 5) (x := (c : Int) + 1) cd_n51 ccm (fun i => by rw [e_m1]; exact nu_2o (by decide)) (fun w h => by
    rw [e_m1]
    refine ⟨isd_c5 (o := 13) h.1.1.1 h.1.1.2.2 (by omega) h.1.2 h.2, ?_⟩
    have hb := h.1.1.2.1
    refine ⟨?_, ?_, ?_, ?_, ?_, fun k k1 k2 => ?_⟩
    · rw [upw_ne (by decide)]; exact hb.1
    · rw [upw_ne (by decide)]; exact hb.2.1
    · rw [upw_at]; omega
    · rw [upw_ne (by decide)]; exact hb.2.2.2.1
    · rw [upw_ne (by decide)]; exact hb.2.2.2.2.1
    · rw [upw_ne (by omega)] at k2
      rw [upw_ne (by omega), upw_ne (by omega), upw_ne (by omega)]
      exact hb.2.2.2.2.2 k k1 k2)
  refine gx_rt r_303_64 rfl rfl ⟨rfl, ?_, Fr_tr f_n51 (by rw [e_m1]; exact Fr_up rfl)⟩
  rw [at_eq (X := X) (k := 31 + 2 * c) (k' := 32 + 2 * c) (many := 5) (q := 11) (lo := 0) (hi := 9) (c := c) (r := .ok (nE X p, w)) (n0 := n0) (by omega) (by decide) (fun g hg => by
    obtain ⟨g0, b1, b2⟩ := need_w hg
    cases b1
    rw [← b2]
    exact e0)]
  exact cdm
set_option maxRecDepth 100000 in
theorem cu_203 : conL[203]? = some (238, [(2, 16, 0), (0, (-2147483648), 2147483647), (0, (-2147483648), 2147483647)], (9, 0, 0), [16999], 0) := rfl
theorem pu_203 (hT : TT T) : ConH T (238, [(2, 16, 0), (0, (-2147483648), 2147483647), (0, (-2147483648), 2147483647)], (9, 0, 0), [16999], 0) := fun args m => ((all_con hT 203).1 (by decide)) _ cu_203 args m
set_option maxRecDepth 100000 in
theorem cu_207 : conL[207]? = some (238, [(2, 17, 0), (0, (-2147483648), 2147483647), (0, (-2147483648), 2147483647)], (9, 0, 0), [17999], 0) := rfl
theorem pu_207 (hT : TT T) : ConH T (238, [(2, 17, 0), (0, (-2147483648), 2147483647), (0, (-2147483648), 2147483647)], (9, 0, 0), [17999], 0) := fun args m => ((all_con hT 207).1 (by decide)) _ cu_207 args m
theorem d_304 (hT : TT T) (hx : XOK X) {p : Nat} {w : Wd} (h : CD (fun m w => IsD m 13 w ∧ WB w) X m (.ok (p, w))) {c : Nat} (hc : w 6 = (c : Int)) (hcm : c < 3) : GX T 5 304 0 [(2, 2), (2, 13)] [] m (RV (fun m1 => CD (fun m w => IsD m 13 w ∧ WB w) X m1 (pAt X (41 + 2 * c) 6 12 0 12 c (.ok (nE X p, w))) ∧ Fr [2002, 2003, 2004, 2005, 2006, 13001, 13002, 13003, 13004, 13005, 13006, 13007, 13008, 13009, 14999, 15999, 16999, 17999, 18999, 19999, 20999, 21999] m m1)) := by
  have hpw := h.2 (p, w) rfl
  have c6 : m 13 7 = (c : Int) := (hpw.1.2.2.2.2.2.2.2.1).trans hc
  obtain ⟨n0, e0⟩ : ∃ n0, w 0 = n0 := ⟨_, rfl⟩
  have c1 : m 13 1 = n0 := hpw.1.2.1.trans e0
  have bn0 : 0 ≤ w 0 ∧ w 0 ≤ 7 := hpw.2.1
  rw [e0] at bn0
  have h0 := h
  have h : CD (fun m w => IsD m 13 w ∧ WB w ∧ w 6 = (c : Int)) X m (.ok (p, w)) := CD_mono h0 (fun w2 z => ⟨z.1, z.2, by
    have := z.1
    rw [← c6]
    exact (this.2.2.2.2.2.2.2.1).symm⟩)
  refine gx_st (L' := [(2, 2), (2, 13)]) (S' := [(2, 2)]) r_304_0 rfl rfl rfl ?_
  refine gx_st (L' := [(2, 2), (2, 13)]) (S' := [(2, 13), (2, 2)]) r_304_1 rfl rfl rfl ?_
  refine gx_gf (x := (c : Int)) 0 r_304_2 (rfl) (ty_13 hT) ⟨by decide, rfl, by decide, by decide⟩ rfl (fun z => absurd z (by decide)) (c6) ?_
  refine gx_st (L' := [(2, 2), (2, 13)]) (S' := [(0, 3), (0, (c : Int)), (2, 2)]) r_304_5 rfl rfl rfl ?_
  refine gx_cv (nx := 9) (S2 := []) (k_306n hT (by omega)) r_304_6 rfl rfl rfl rfl rfl (rcv_v rfl (ty_2 hT) (by decide) rfl (by decide)) rfl (by decide) rfl (fun n6 q6 => ?_)
  obtain rfl := q6.symm
  refine gx_st (L' := [(2, 2), (2, 13)]) (S' := [(2, 2)]) r_304_9 rfl rfl rfl ?_
  refine gx_cv (nx := 13) (S2 := []) (d_312 (P := (fun m w => IsD m 13 w ∧ WB w ∧ w 6 = (c : Int))) (fun m m2 w e h => ⟨IsD_eq h.1 (fun p i _ _ hi => e p i (by omega) (by omega) hi), h.2⟩) hT hx h) r_304_10 rfl rfl rfl rfl rfl (rcv_v rfl (ty_2 hT) (by decide) rfl (by decide)) rfl (by decide) rfl (fun n10 q10 => ?_)
  have c6_n10 : n10 13 7 = (c : Int) := (q10.2 13 7 rfl).trans c6
  have c1_n10 : n10 13 1 = n0 := (q10.2 13 1 rfl).trans c1
  have f_n10 : Fr [2002, 2003, 2004, 2005, 2006, 13001, 13002, 13003, 13004, 13005, 13006, 13007, 13008, 13009, 14999, 15999, 16999, 17999, 18999, 19999, 20999, 21999] m n10 := Fr_tr Fr_rf (Fr_sub q10.2 (by decide))
  refine gx_st (L' := [(2, 2), (2, 13)]) (S' := [(2, 13)]) r_304_13 rfl rfl rfl ?_
  refine gx_gf (x := 16) 2 r_304_14 (rfl) (ty_13 hT) ⟨by decide, rfl, by decide, by decide⟩ rfl (fun _ => by omega) (pin_at q10.1.1.1.2.1 (t := 16) rfl (by decide)) ?_
  refine gx_st (L' := [(2, 2), (2, 13)]) (S' := [(2, 13), (2, 16)]) r_304_17 rfl rfl rfl ?_
  refine gx_gf (x := (c : Int)) 0 r_304_18 (rfl) (ty_13 hT) ⟨by decide, rfl, by decide, by decide⟩ rfl (fun z => absurd z (by decide)) (c6_n10) ?_
  refine gx_st (L' := [(2, 2), (2, 13)]) (S' := [(2, 2), (0, (c : Int)), (2, 16)]) r_304_21 rfl rfl rfl ?_
  refine gx_st (L' := [(2, 2), (2, 13)]) (S' := [(2, 13), (2, 2), (0, (c : Int)), (2, 16)]) r_304_22 rfl rfl rfl ?_
  refine gx_ci (nx := 26) (S2 := [(0, (c : Int)), (2, 16)]) (d_308 (P := (fun m w => IsD m 13 w ∧ WB w ∧ w 6 = (c : Int))) (fun m m2 w e h => ⟨IsD_eq h.1 (fun p i _ _ hi => e p i (by omega) (by omega) hi), h.2⟩) hT hx q10.1 (n0 := n0) c1_n10 (by omega) (by omega)) r_304_23 rfl rfl rfl rfl rfl (rcv_v rfl (ty_2 hT) (by decide) rfl (by decide)) rfl (by decide) rfl (fun x23 n23 q23 => ?_)
  show GX T 5 304 26 [(2, 2), (2, 13)] [(0, x23), (0, (c : Int)), (2, 16)] n23 (RV (fun m1 => CD (fun m w => IsD m 13 w ∧ WB w) X m1 (pAt X (41 + 2 * c) 6 12 0 12 c (.ok (nE X p, w))) ∧ Fr [2002, 2003, 2004, 2005, 2006, 13001, 13002, 13003, 13004, 13005, 13006, 13007, 13008, 13009, 14999, 15999, 16999, 17999, 18999, 19999, 20999, 21999] m m1))
  have c6_n23 : n23 13 7 = (c : Int) := (q23.2 13 7 rfl).trans c6_n10
  have c1_n23 : n23 13 1 = n0 := (q23.2 13 1 rfl).trans c1_n10
  have f_n23 : Fr [2002, 2003, 2004, 2005, 2006, 13001, 13002, 13003, 13004, 13005, 13006, 13007, 13008, 13009, 14999, 15999, 16999, 17999, 18999, 19999, 20999, 21999] m n23 := Fr_tr f_n10 (Fr_sub q23.2 (by decide))
  have v_n23 := q23.1.2
  have cc_n23 : CC X n23 := by
    have z := q23.1.1.1
    revert z
    generalize pNumU X 0 (n0 - 1) (-1) (pNeed X 14 _) = r9
    intro z
    cases r9 with
    | error e => exact z.2.1
    | ok g => exact z.2.1
  refine gx_cv (nx := 29) (S2 := []) (gx_av (c_238 (r := 16) (n := 3) (ty_16 hT) (by decide) (by decide) (k := c) (by omega) x23) (gx_hv (args := [(2, 16), (0, (c : Int)), (0, x23)]) (pu_203 hT) ⟨gq_ar (t := 16) (by decide) (by decide) rfl, gq_any (by omega) (by omega), gq_any (by omega) (by omega), trivial⟩ cc_n23.1 rfl)) r_304_26 rfl rfl rfl rfl rfl rfl rfl (by decide) rfl (fun n26 q26 => ?_)
  have c6_n26 : n26 13 7 = (c : Int) := (q26.2.2 13 7 rfl).trans c6_n23
  have c1_n26 : n26 13 1 = n0 := (q26.2.2 13 1 rfl).trans c1_n23
  have f_n26 : Fr [2002, 2003, 2004, 2005, 2006, 13001, 13002, 13003, 13004, 13005, 13006, 13007, 13008, 13009, 14999, 15999, 16999, 17999, 18999, 19999, 20999, 21999] m n26 := Fr_tr f_n23 (Fr_sub q26.2.2 (by decide))
  have cc_n26 : CC X n26 := CC_fr cc_n23 q26.2.2 q26.2.1 (by decide) (by decide) (by decide)
  have cd_n26 := CD_put (P := (fun m w => IsD m 13 w ∧ WB w ∧ w 6 = (c : Int))) (P' := (fun m w => (IsD m 13 w ∧ WB w ∧ w 6 = (c : Int)) ∧ m 16 c = w (41 + 2 * c))) (i := 41 + 2 * c) q23.1.1 cc_n26 (fun i => by rw [q26.1]; exact nu_2o (by decide)) (fun w h => by
    rw [q26.1]
    exact ⟨⟨isd_a3 (o := 13) h.1 h.2.2 (by omega) _, WB_eq h.2.1 (fun i hi => upw_ne (by omega)), (upw_ne (by omega)).trans h.2.2⟩, nu_at.trans upw_at.symm⟩)
  refine gx_st (L' := [(2, 2), (2, 13)]) (S' := [(2, 2)]) r_304_29 rfl rfl rfl ?_
  refine gx_st (L' := [(2, 2), (2, 13)]) (S' := [(2, 1000012), (2, 2)]) r_304_30 rfl rfl rfl ?_
  refine gx_cv (nx := 35) (S2 := []) (d_309 (P := (fun m w => (IsD m 13 w ∧ WB w ∧ w 6 = (c : Int)) ∧ m 16 c = w (41 + 2 * c))) (fun m m2 w e h => ⟨⟨IsD_eq h.1.1 (fun p i _ _ hi => e p i (by omega) (by omega) hi), h.1.2⟩, (e 16 c (by decide) (by decide) (by omega)).trans h.2⟩) hT hx cd_n26 (q := 12) (by decide) rfl sl_12) r_304_32 rfl rfl rfl rfl rfl (rcv_v rfl (ty_2 hT) (by decide) rfl (by decide)) rfl (by decide) rfl (fun n32 q32 => ?_)
  have c6_n32 : n32 13 7 = (c : Int) := (q32.2 13 7 rfl).trans c6_n26
  have c1_n32 : n32 13 1 = n0 := (q32.2 13 1 rfl).trans c1_n26
  have f_n32 : Fr [2002, 2003, 2004, 2005, 2006, 13001, 13002, 13003, 13004, 13005, 13006, 13007, 13008, 13009, 14999, 15999, 16999, 17999, 18999, 19999, 20999, 21999] m n32 := Fr_tr f_n26 (Fr_sub q32.2 (by decide))
  refine gx_st (L' := [(2, 2), (2, 13)]) (S' := [(2, 13)]) r_304_35 rfl rfl rfl ?_
  refine gx_gf (x := 17) 2 r_304_36 (rfl) (ty_13 hT) ⟨by decide, rfl, by decide, by decide⟩ rfl (fun _ => by omega) (pin_at q32.1.1.1.2.1 (t := 17) rfl (by decide)) ?_
  refine gx_st (L' := [(2, 2), (2, 13)]) (S' := [(2, 13), (2, 17)]) r_304_39 rfl rfl rfl ?_
  refine gx_gf (x := (c : Int)) 0 r_304_40 (rfl) (ty_13 hT) ⟨by decide, rfl, by decide, by decide⟩ rfl (fun z => absurd z (by decide)) (c6_n32) ?_
  refine gx_st (L' := [(2, 2), (2, 13)]) (S' := [(2, 2), (0, (c : Int)), (2, 17)]) r_304_43 rfl rfl rfl ?_
  refine gx_st (L' := [(2, 2), (2, 13)]) (S' := [(0, 0), (2, 2), (0, (c : Int)), (2, 17)]) r_304_44 rfl rfl rfl ?_
  refine gx_st (L' := [(2, 2), (2, 13)]) (S' := [(0, 12), (0, 0), (2, 2), (0, (c : Int)), (2, 17)]) r_304_45 rfl rfl rfl ?_
  refine gx_st (L' := [(2, 2), (2, 13)]) (S' := [(0, (-1)), (0, 12), (0, 0), (2, 2), (0, (c : Int)), (2, 17)]) r_304_47 rfl rfl rfl ?_
  refine gx_ci (nx := 51) (S2 := [(0, (c : Int)), (2, 17)]) (d_310 (P := (fun m w => (IsD m 13 w ∧ WB w ∧ w 6 = (c : Int)) ∧ m 16 c = w (41 + 2 * c))) (fun m m2 w e h => ⟨⟨IsD_eq h.1.1 (fun p i _ _ hi => e p i (by omega) (by omega) hi), h.1.2⟩, (e 16 c (by decide) (by decide) (by omega)).trans h.2⟩) hT hx q32.1.1 (lo := 0) (hi := 12) (u := -1) (by decide) (by decide) q32.1.2) r_304_48 rfl rfl rfl rfl rfl (rcv_v rfl (ty_2 hT) (by decide) rfl (by decide)) rfl (by decide) rfl (fun x48 n48 q48 => ?_)
  show GX T 5 304 51 [(2, 2), (2, 13)] [(0, x48), (0, (c : Int)), (2, 17)] n48 (RV (fun m1 => CD (fun m w => IsD m 13 w ∧ WB w) X m1 (pAt X (41 + 2 * c) 6 12 0 12 c (.ok (nE X p, w))) ∧ Fr [2002, 2003, 2004, 2005, 2006, 13001, 13002, 13003, 13004, 13005, 13006, 13007, 13008, 13009, 14999, 15999, 16999, 17999, 18999, 19999, 20999, 21999] m m1))
  have c6_n48 : n48 13 7 = (c : Int) := (q48.2 13 7 rfl).trans c6_n32
  have c1_n48 : n48 13 1 = n0 := (q48.2 13 1 rfl).trans c1_n32
  have f_n48 : Fr [2002, 2003, 2004, 2005, 2006, 13001, 13002, 13003, 13004, 13005, 13006, 13007, 13008, 13009, 14999, 15999, 16999, 17999, 18999, 19999, 20999, 21999] m n48 := Fr_tr f_n32 (Fr_sub q48.2 (by decide))
  have v_n48 := q48.1.2
  have cc_n48 : CC X n48 := by
    have z := q48.1.1.1
    revert z
    generalize pNumU X 0 12 (-1) _ = r9
    intro z
    cases r9 with
    | error e => exact z.2.1
    | ok g => exact z.2.1
  refine gx_cv (nx := 54) (S2 := []) (gx_av (c_238 (r := 17) (n := 3) (ty_17 hT) (by decide) (by decide) (k := c) (by omega) x48) (gx_hv (args := [(2, 17), (0, (c : Int)), (0, x48)]) (pu_207 hT) ⟨gq_ar (t := 17) (by decide) (by decide) rfl, gq_any (by omega) (by omega), gq_any (by omega) (by omega), trivial⟩ cc_n48.1 rfl)) r_304_51 rfl rfl rfl rfl rfl rfl rfl (by decide) rfl (fun n51 q51 => ?_)
  have c6_n51 : n51 13 7 = (c : Int) := (q51.2.2 13 7 rfl).trans c6_n48
  have c1_n51 : n51 13 1 = n0 := (q51.2.2 13 1 rfl).trans c1_n48
  have f_n51 : Fr [2002, 2003, 2004, 2005, 2006, 13001, 13002, 13003, 13004, 13005, 13006, 13007, 13008, 13009, 14999, 15999, 16999, 17999, 18999, 19999, 20999, 21999] m n51 := Fr_tr f_n48 (Fr_sub q51.2.2 (by decide))
  have cc_n51 : CC X n51 := CC_fr cc_n48 q51.2.2 q51.2.1 (by decide) (by decide) (by decide)
  have cd_n51 := CD_put (P := (fun m w => (IsD m 13 w ∧ WB w ∧ w 6 = (c : Int)) ∧ m 16 c = w (41 + 2 * c))) (P' := (fun m w => ((IsD m 13 w ∧ WB w ∧ w 6 = (c : Int)) ∧ m 16 c = w (41 + 2 * c)) ∧ m 17 c = w (42 + 2 * c))) (i := 42 + 2 * c) q48.1.1 cc_n51 (fun i => by rw [q51.1]; exact nu_2o (by decide)) (fun w h => by
    rw [q51.1]
    exact ⟨⟨⟨isd_a4 (o := 13) h.1.1 h.1.2.2 (by omega) _, WB_eq h.1.2.1 (fun i hi => upw_ne (by omega)), (upw_ne (by omega)).trans h.1.2.2⟩, ((nu_no (by decide)).trans h.2).trans (upw_ne (by omega)).symm⟩, nu_at.trans upw_at.symm⟩)
  refine gx_st (L' := [(2, 2), (2, 13)]) (S' := [(2, 13)]) r_304_54 rfl rfl rfl ?_
  refine gx_st (L' := [(2, 2), (2, 13)]) (S' := [(2, 13), (2, 13)]) r_304_55 rfl rfl rfl ?_
  refine gx_gf (x := (c : Int)) 0 r_304_56 (rfl) (ty_13 hT) ⟨by decide, rfl, by decide, by decide⟩ rfl (fun z => absurd z (by decide)) (c6_n51) ?_
  refine gx_st (L' := [(2, 2), (2, 13)]) (S' := [(0, 1), (0, (c : Int)), (2, 13)]) r_304_59 rfl rfl rfl ?_
  refine gx_ar (L' := [(2, 2), (2, 13)]) (S' := [(2, 13)]) (t := 0) (e := w32 ((c : Int) + 1)) (z := (c : Int) + 1) r_304_60 rfl rfl rfl (w32_eq (by omega) (by omega) (by omega)) ?_
  obtain ⟨m1, e_m1⟩ : ∃ z, z = nu_up n51 13 7 ((c : Int) + 1) := ⟨_, rfl⟩
  refine gx_pf (x := (c : Int) + 1) 0 r_304_61 (rfl) (ty_13 hT) ⟨by decide, rfl, by decide, by decide⟩ rfl (fun z => absurd z (by decide)) (fun z => absurd z (by decide)) e_m1.symm ?_
  have hgm : Gam m1 := by rw [e_m1]; exact gam_f cc_n51.1 rfl (by omega) (by omega)
  have ccm : CC X m1 := by rw [e_m1]; exact CC_up cc_n51 (by decide) rfl (by rw [← e_m1]; exact hgm)
  have cdm := CD_up (P := (fun m w => ((IsD m 13 w ∧ WB w ∧ w 6 = (c : Int)) ∧ m 16 c = w (41 + 2 * c)) ∧ m 17 c = w (42 + 2 * c))) (P' := (fun m w => IsD m 13 w ∧ WB w)) (i := 6) (x := (c : Int) + 1) cd_n51 ccm (fun i => by rw [e_m1]; exact nu_2o (by decide)) (fun w h => by
    rw [e_m1]
    refine ⟨isd_c6 (o := 13) h.1.1.1 h.1.1.2.2 (by omega) h.1.2 h.2, ?_⟩
    have hb := h.1.1.2.1
    refine ⟨?_, ?_, ?_, ?_, ?_, fun k k1 k2 => ?_⟩
    · rw [upw_ne (by decide)]; exact hb.1
    · rw [upw_ne (by decide)]; exact hb.2.1
    · rw [upw_ne (by decide)]; exact hb.2.2.1
    · rw [upw_at]; omega
    · rw [upw_ne (by decide)]; exact hb.2.2.2.2.1
    · rw [upw_ne (by omega)] at k2
      rw [upw_ne (by omega), upw_ne (by omega), upw_ne (by omega)]
      exact hb.2.2.2.2.2 k k1 k2)
  refine gx_rt r_304_64 rfl rfl ⟨rfl, ?_, Fr_tr f_n51 (by rw [e_m1]; exact Fr_up rfl)⟩
  rw [at_eq (X := X) (k := 41 + 2 * c) (k' := 42 + 2 * c) (many := 6) (q := 12) (lo := 0) (hi := 12) (c := c) (r := .ok (nE X p, w)) (n0 := n0) (by omega) (by decide) (fun g hg => by
    obtain ⟨g0, b1, b2⟩ := need_w hg
    cases b1
    rw [← b2]
    exact e0)]
  exact cdm
set_option maxRecDepth 100000 in
theorem cu_211 : conL[211]? = some (238, [(2, 18, 0), (0, (-2147483648), 2147483647), (0, (-2147483648), 2147483647)], (9, 0, 0), [18999], 0) := rfl
theorem pu_211 (hT : TT T) : ConH T (238, [(2, 18, 0), (0, (-2147483648), 2147483647), (0, (-2147483648), 2147483647)], (9, 0, 0), [18999], 0) := fun args m => ((all_con hT 211).1 (by decide)) _ cu_211 args m
set_option maxRecDepth 100000 in
theorem cu_215 : conL[215]? = some (238, [(2, 19, 0), (0, (-2147483648), 2147483647), (0, (-2147483648), 2147483647)], (9, 0, 0), [19999], 0) := rfl
theorem pu_215 (hT : TT T) : ConH T (238, [(2, 19, 0), (0, (-2147483648), 2147483647), (0, (-2147483648), 2147483647)], (9, 0, 0), [19999], 0) := fun args m => ((all_con hT 215).1 (by decide)) _ cu_215 args m
theorem d_305 (hT : TT T) (hx : XOK X) {p : Nat} {w : Wd} (h : CD (fun m w => IsD m 13 w ∧ WB w) X m (.ok (p, w))) {c : Nat} (hc : w 7 = (c : Int)) (hcm : c < 5) : GX T 5 305 0 [(2, 2), (2, 13)] [] m (RV (fun m1 => CD (fun m w => IsD m 13 w ∧ WB w) X m1 (pAt X (47 + 2 * c) 7 13 1 99 c (.ok (nE X p, w))) ∧ Fr [2002, 2003, 2004, 2005, 2006, 13001, 13002, 13003, 13004, 13005, 13006, 13007, 13008, 13009, 14999, 15999, 16999, 17999, 18999, 19999, 20999, 21999] m m1)) := by
  have hpw := h.2 (p, w) rfl
  have c6 : m 13 8 = (c : Int) := (hpw.1.2.2.2.2.2.2.2.2.1).trans hc
  obtain ⟨n0, e0⟩ : ∃ n0, w 0 = n0 := ⟨_, rfl⟩
  have c1 : m 13 1 = n0 := hpw.1.2.1.trans e0
  have bn0 : 0 ≤ w 0 ∧ w 0 ≤ 7 := hpw.2.1
  rw [e0] at bn0
  have h0 := h
  have h : CD (fun m w => IsD m 13 w ∧ WB w ∧ w 7 = (c : Int)) X m (.ok (p, w)) := CD_mono h0 (fun w2 z => ⟨z.1, z.2, by
    have := z.1
    rw [← c6]
    exact (this.2.2.2.2.2.2.2.2.1).symm⟩)
  refine gx_st (L' := [(2, 2), (2, 13)]) (S' := [(2, 2)]) r_305_0 rfl rfl rfl ?_
  refine gx_st (L' := [(2, 2), (2, 13)]) (S' := [(2, 13), (2, 2)]) r_305_1 rfl rfl rfl ?_
  refine gx_gf (x := (c : Int)) 0 r_305_2 (rfl) (ty_13 hT) ⟨by decide, rfl, by decide, by decide⟩ rfl (fun z => absurd z (by decide)) (c6) ?_
  refine gx_st (L' := [(2, 2), (2, 13)]) (S' := [(0, 5), (0, (c : Int)), (2, 2)]) r_305_5 rfl rfl rfl ?_
  refine gx_cv (nx := 9) (S2 := []) (k_306n hT (by omega)) r_305_6 rfl rfl rfl rfl rfl (rcv_v rfl (ty_2 hT) (by decide) rfl (by decide)) rfl (by decide) rfl (fun n6 q6 => ?_)
  obtain rfl := q6.symm
  refine gx_st (L' := [(2, 2), (2, 13)]) (S' := [(2, 2)]) r_305_9 rfl rfl rfl ?_
  refine gx_cv (nx := 13) (S2 := []) (d_312 (P := (fun m w => IsD m 13 w ∧ WB w ∧ w 7 = (c : Int))) (fun m m2 w e h => ⟨IsD_eq h.1 (fun p i _ _ hi => e p i (by omega) (by omega) hi), h.2⟩) hT hx h) r_305_10 rfl rfl rfl rfl rfl (rcv_v rfl (ty_2 hT) (by decide) rfl (by decide)) rfl (by decide) rfl (fun n10 q10 => ?_)
  have c6_n10 : n10 13 8 = (c : Int) := (q10.2 13 8 rfl).trans c6
  have c1_n10 : n10 13 1 = n0 := (q10.2 13 1 rfl).trans c1
  have f_n10 : Fr [2002, 2003, 2004, 2005, 2006, 13001, 13002, 13003, 13004, 13005, 13006, 13007, 13008, 13009, 14999, 15999, 16999, 17999, 18999, 19999, 20999, 21999] m n10 := Fr_tr Fr_rf (Fr_sub q10.2 (by decide))
  refine gx_st (L' := [(2, 2), (2, 13)]) (S' := [(2, 13)]) r_305_13 rfl rfl rfl ?_
  refine gx_gf (x := 18) 2 r_305_14 (rfl) (ty_13 hT) ⟨by decide, rfl, by decide, by decide⟩ rfl (fun _ => by omega) (pin_at q10.1.1.1.2.1 (t := 18) rfl (by decide)) ?_
  refine gx_st (L' := [(2, 2), (2, 13)]) (S' := [(2, 13), (2, 18)]) r_305_17 rfl rfl rfl ?_
  refine gx_gf (x := (c : Int)) 0 r_305_18 (rfl) (ty_13 hT) ⟨by decide, rfl, by decide, by decide⟩ rfl (fun z => absurd z (by decide)) (c6_n10) ?_
  refine gx_st (L' := [(2, 2), (2, 13)]) (S' := [(2, 2), (0, (c : Int)), (2, 18)]) r_305_21 rfl rfl rfl ?_
  refine gx_st (L' := [(2, 2), (2, 13)]) (S' := [(2, 13), (2, 2), (0, (c : Int)), (2, 18)]) r_305_22 rfl rfl rfl ?_
  refine gx_ci (nx := 26) (S2 := [(0, (c : Int)), (2, 18)]) (d_308 (P := (fun m w => IsD m 13 w ∧ WB w ∧ w 7 = (c : Int))) (fun m m2 w e h => ⟨IsD_eq h.1 (fun p i _ _ hi => e p i (by omega) (by omega) hi), h.2⟩) hT hx q10.1 (n0 := n0) c1_n10 (by omega) (by omega)) r_305_23 rfl rfl rfl rfl rfl (rcv_v rfl (ty_2 hT) (by decide) rfl (by decide)) rfl (by decide) rfl (fun x23 n23 q23 => ?_)
  show GX T 5 305 26 [(2, 2), (2, 13)] [(0, x23), (0, (c : Int)), (2, 18)] n23 (RV (fun m1 => CD (fun m w => IsD m 13 w ∧ WB w) X m1 (pAt X (47 + 2 * c) 7 13 1 99 c (.ok (nE X p, w))) ∧ Fr [2002, 2003, 2004, 2005, 2006, 13001, 13002, 13003, 13004, 13005, 13006, 13007, 13008, 13009, 14999, 15999, 16999, 17999, 18999, 19999, 20999, 21999] m m1))
  have c6_n23 : n23 13 8 = (c : Int) := (q23.2 13 8 rfl).trans c6_n10
  have c1_n23 : n23 13 1 = n0 := (q23.2 13 1 rfl).trans c1_n10
  have f_n23 : Fr [2002, 2003, 2004, 2005, 2006, 13001, 13002, 13003, 13004, 13005, 13006, 13007, 13008, 13009, 14999, 15999, 16999, 17999, 18999, 19999, 20999, 21999] m n23 := Fr_tr f_n10 (Fr_sub q23.2 (by decide))
  have v_n23 := q23.1.2
  have cc_n23 : CC X n23 := by
    have z := q23.1.1.1
    revert z
    generalize pNumU X 0 (n0 - 1) (-1) (pNeed X 14 _) = r9
    intro z
    cases r9 with
    | error e => exact z.2.1
    | ok g => exact z.2.1
  refine gx_cv (nx := 29) (S2 := []) (gx_av (c_238 (r := 18) (n := 5) (ty_18 hT) (by decide) (by decide) (k := c) (by omega) x23) (gx_hv (args := [(2, 18), (0, (c : Int)), (0, x23)]) (pu_211 hT) ⟨gq_ar (t := 18) (by decide) (by decide) rfl, gq_any (by omega) (by omega), gq_any (by omega) (by omega), trivial⟩ cc_n23.1 rfl)) r_305_26 rfl rfl rfl rfl rfl rfl rfl (by decide) rfl (fun n26 q26 => ?_)
  have c6_n26 : n26 13 8 = (c : Int) := (q26.2.2 13 8 rfl).trans c6_n23
  have c1_n26 : n26 13 1 = n0 := (q26.2.2 13 1 rfl).trans c1_n23
  have f_n26 : Fr [2002, 2003, 2004, 2005, 2006, 13001, 13002, 13003, 13004, 13005, 13006, 13007, 13008, 13009, 14999, 15999, 16999, 17999, 18999, 19999, 20999, 21999] m n26 := Fr_tr f_n23 (Fr_sub q26.2.2 (by decide))
  have cc_n26 : CC X n26 := CC_fr cc_n23 q26.2.2 q26.2.1 (by decide) (by decide) (by decide)
  have cd_n26 := CD_put (P := (fun m w => IsD m 13 w ∧ WB w ∧ w 7 = (c : Int))) (P' := (fun m w => (IsD m 13 w ∧ WB w ∧ w 7 = (c : Int)) ∧ m 18 c = w (47 + 2 * c))) (i := 47 + 2 * c) q23.1.1 cc_n26 (fun i => by rw [q26.1]; exact nu_2o (by decide)) (fun w h => by
    rw [q26.1]
    exact ⟨⟨isd_a5 (o := 13) h.1 h.2.2 (by omega) _, WB_eq h.2.1 (fun i hi => upw_ne (by omega)), (upw_ne (by omega)).trans h.2.2⟩, nu_at.trans upw_at.symm⟩)
  refine gx_st (L' := [(2, 2), (2, 13)]) (S' := [(2, 2)]) r_305_29 rfl rfl rfl ?_
  refine gx_st (L' := [(2, 2), (2, 13)]) (S' := [(2, 1000013), (2, 2)]) r_305_30 rfl rfl rfl ?_
  refine gx_cv (nx := 35) (S2 := []) (d_309 (P := (fun m w => (IsD m 13 w ∧ WB w ∧ w 7 = (c : Int)) ∧ m 18 c = w (47 + 2 * c))) (fun m m2 w e h => ⟨⟨IsD_eq h.1.1 (fun p i _ _ hi => e p i (by omega) (by omega) hi), h.1.2⟩, (e 18 c (by decide) (by decide) (by omega)).trans h.2⟩) hT hx cd_n26 (q := 13) (by decide) rfl sl_13) r_305_32 rfl rfl rfl rfl rfl (rcv_v rfl (ty_2 hT) (by decide) rfl (by decide)) rfl (by decide) rfl (fun n32 q32 => ?_)
  have c6_n32 : n32 13 8 = (c : Int) := (q32.2 13 8 rfl).trans c6_n26
  have c1_n32 : n32 13 1 = n0 := (q32.2 13 1 rfl).trans c1_n26
  have f_n32 : Fr [2002, 2003, 2004, 2005, 2006, 13001, 13002, 13003, 13004, 13005, 13006, 13007, 13008, 13009, 14999, 15999, 16999, 17999, 18999, 19999, 20999, 21999] m n32 := Fr_tr f_n26 (Fr_sub q32.2 (by decide))
  refine gx_st (L' := [(2, 2), (2, 13)]) (S' := [(2, 13)]) r_305_35 rfl rfl rfl ?_
  refine gx_gf (x := 19) 2 r_305_36 (rfl) (ty_13 hT) ⟨by decide, rfl, by decide, by decide⟩ rfl (fun _ => by omega) (pin_at q32.1.1.1.2.1 (t := 19) rfl (by decide)) ?_
  refine gx_st (L' := [(2, 2), (2, 13)]) (S' := [(2, 13), (2, 19)]) r_305_39 rfl rfl rfl ?_
  refine gx_gf (x := (c : Int)) 0 r_305_40 (rfl) (ty_13 hT) ⟨by decide, rfl, by decide, by decide⟩ rfl (fun z => absurd z (by decide)) (c6_n32) ?_
  refine gx_st (L' := [(2, 2), (2, 13)]) (S' := [(2, 2), (0, (c : Int)), (2, 19)]) r_305_43 rfl rfl rfl ?_
  refine gx_st (L' := [(2, 2), (2, 13)]) (S' := [(0, 1), (2, 2), (0, (c : Int)), (2, 19)]) r_305_44 rfl rfl rfl ?_
  refine gx_st (L' := [(2, 2), (2, 13)]) (S' := [(0, 99), (0, 1), (2, 2), (0, (c : Int)), (2, 19)]) r_305_45 rfl rfl rfl ?_
  refine gx_st (L' := [(2, 2), (2, 13)]) (S' := [(0, (-1)), (0, 99), (0, 1), (2, 2), (0, (c : Int)), (2, 19)]) r_305_47 rfl rfl rfl ?_
  refine gx_ci (nx := 51) (S2 := [(0, (c : Int)), (2, 19)]) (d_310 (P := (fun m w => (IsD m 13 w ∧ WB w ∧ w 7 = (c : Int)) ∧ m 18 c = w (47 + 2 * c))) (fun m m2 w e h => ⟨⟨IsD_eq h.1.1 (fun p i _ _ hi => e p i (by omega) (by omega) hi), h.1.2⟩, (e 18 c (by decide) (by decide) (by omega)).trans h.2⟩) hT hx q32.1.1 (lo := 1) (hi := 99) (u := -1) (by decide) (by decide) q32.1.2) r_305_48 rfl rfl rfl rfl rfl (rcv_v rfl (ty_2 hT) (by decide) rfl (by decide)) rfl (by decide) rfl (fun x48 n48 q48 => ?_)
  show GX T 5 305 51 [(2, 2), (2, 13)] [(0, x48), (0, (c : Int)), (2, 19)] n48 (RV (fun m1 => CD (fun m w => IsD m 13 w ∧ WB w) X m1 (pAt X (47 + 2 * c) 7 13 1 99 c (.ok (nE X p, w))) ∧ Fr [2002, 2003, 2004, 2005, 2006, 13001, 13002, 13003, 13004, 13005, 13006, 13007, 13008, 13009, 14999, 15999, 16999, 17999, 18999, 19999, 20999, 21999] m m1))
  have c6_n48 : n48 13 8 = (c : Int) := (q48.2 13 8 rfl).trans c6_n32
  have c1_n48 : n48 13 1 = n0 := (q48.2 13 1 rfl).trans c1_n32
  have f_n48 : Fr [2002, 2003, 2004, 2005, 2006, 13001, 13002, 13003, 13004, 13005, 13006, 13007, 13008, 13009, 14999, 15999, 16999, 17999, 18999, 19999, 20999, 21999] m n48 := Fr_tr f_n32 (Fr_sub q48.2 (by decide))
  have v_n48 := q48.1.2
  have cc_n48 : CC X n48 := by
    have z := q48.1.1.1
    revert z
    generalize pNumU X 1 99 (-1) _ = r9
    intro z
    cases r9 with
    | error e => exact z.2.1
    | ok g => exact z.2.1
  refine gx_cv (nx := 54) (S2 := []) (gx_av (c_238 (r := 19) (n := 5) (ty_19 hT) (by decide) (by decide) (k := c) (by omega) x48) (gx_hv (args := [(2, 19), (0, (c : Int)), (0, x48)]) (pu_215 hT) ⟨gq_ar (t := 19) (by decide) (by decide) rfl, gq_any (by omega) (by omega), gq_any (by omega) (by omega), trivial⟩ cc_n48.1 rfl)) r_305_51 rfl rfl rfl rfl rfl rfl rfl (by decide) rfl (fun n51 q51 => ?_)
  have c6_n51 : n51 13 8 = (c : Int) := (q51.2.2 13 8 rfl).trans c6_n48
  have c1_n51 : n51 13 1 = n0 := (q51.2.2 13 1 rfl).trans c1_n48
  have f_n51 : Fr [2002, 2003, 2004, 2005, 2006, 13001, 13002, 13003, 13004, 13005, 13006, 13007, 13008, 13009, 14999, 15999, 16999, 17999, 18999, 19999, 20999, 21999] m n51 := Fr_tr f_n48 (Fr_sub q51.2.2 (by decide))
  have cc_n51 : CC X n51 := CC_fr cc_n48 q51.2.2 q51.2.1 (by decide) (by decide) (by decide)
  have cd_n51 := CD_put (P := (fun m w => (IsD m 13 w ∧ WB w ∧ w 7 = (c : Int)) ∧ m 18 c = w (47 + 2 * c))) (P' := (fun m w => ((IsD m 13 w ∧ WB w ∧ w 7 = (c : Int)) ∧ m 18 c = w (47 + 2 * c)) ∧ m 19 c = w (48 + 2 * c))) (i := 48 + 2 * c) q48.1.1 cc_n51 (fun i => by rw [q51.1]; exact nu_2o (by decide)) (fun w h => by
    rw [q51.1]
    exact ⟨⟨⟨isd_a6 (o := 13) h.1.1 h.1.2.2 (by omega) _, WB_eq h.1.2.1 (fun i hi => upw_ne (by omega)), (upw_ne (by omega)).trans h.1.2.2⟩, ((nu_no (by decide)).trans h.2).trans (upw_ne (by omega)).symm⟩, nu_at.trans upw_at.symm⟩)
  refine gx_st (L' := [(2, 2), (2, 13)]) (S' := [(2, 13)]) r_305_54 rfl rfl rfl ?_
  refine gx_st (L' := [(2, 2), (2, 13)]) (S' := [(2, 13), (2, 13)]) r_305_55 rfl rfl rfl ?_
  refine gx_gf (x := (c : Int)) 0 r_305_56 (rfl) (ty_13 hT) ⟨by decide, rfl, by decide, by decide⟩ rfl (fun z => absurd z (by decide)) (c6_n51) ?_
  refine gx_st (L' := [(2, 2), (2, 13)]) (S' := [(0, 1), (0, (c : Int)), (2, 13)]) r_305_59 rfl rfl rfl ?_
  refine gx_ar (L' := [(2, 2), (2, 13)]) (S' := [(2, 13)]) (t := 0) (e := w32 ((c : Int) + 1)) (z := (c : Int) + 1) r_305_60 rfl rfl rfl (w32_eq (by omega) (by omega) (by omega)) ?_
  obtain ⟨m1, e_m1⟩ : ∃ z, z = nu_up n51 13 8 ((c : Int) + 1) := ⟨_, rfl⟩
  refine gx_pf (x := (c : Int) + 1) 0 r_305_61 (rfl) (ty_13 hT) ⟨by decide, rfl, by decide, by decide⟩ rfl (fun z => absurd z (by decide)) (fun z => absurd z (by decide)) e_m1.symm ?_
  have hgm : Gam m1 := by rw [e_m1]; exact gam_f cc_n51.1 rfl (by omega) (by omega)
  have ccm : CC X m1 := by rw [e_m1]; exact CC_up cc_n51 (by decide) rfl (by rw [← e_m1]; exact hgm)
  have cdm := CD_up (P := (fun m w => ((IsD m 13 w ∧ WB w ∧ w 7 = (c : Int)) ∧ m 18 c = w (47 + 2 * c)) ∧ m 19 c = w (48 + 2 * c))) (P' := (fun m w => IsD m 13 w ∧ WB w)) (i := 7) (x := (c : Int) + 1) cd_n51 ccm (fun i => by rw [e_m1]; exact nu_2o (by decide)) (fun w h => by
    rw [e_m1]
    refine ⟨isd_c7 (o := 13) h.1.1.1 h.1.1.2.2 (by omega) h.1.2 h.2, ?_⟩
    have hb := h.1.1.2.1
    refine ⟨?_, ?_, ?_, ?_, ?_, fun k k1 k2 => ?_⟩
    · rw [upw_ne (by decide)]; exact hb.1
    · rw [upw_ne (by decide)]; exact hb.2.1
    · rw [upw_ne (by decide)]; exact hb.2.2.1
    · rw [upw_ne (by decide)]; exact hb.2.2.2.1
    · rw [upw_at]; omega
    · rw [upw_ne (by omega)] at k2
      rw [upw_ne (by omega), upw_ne (by omega), upw_ne (by omega)]
      exact hb.2.2.2.2.2 k k1 k2)
  refine gx_rt r_305_64 rfl rfl ⟨rfl, ?_, Fr_tr f_n51 (by rw [e_m1]; exact Fr_up rfl)⟩
  rw [at_eq (X := X) (k := 47 + 2 * c) (k' := 48 + 2 * c) (many := 7) (q := 13) (lo := 1) (hi := 99) (c := c) (r := .ok (nE X p, w)) (n0 := n0) (by omega) (by decide) (fun g hg => by
    obtain ⟨g0, b1, b2⟩ := need_w hg
    cases b1
    rw [← b2]
    exact e0)]
  exact cdm
end DRAFT
