/-! facts of objects -/
abbrev TT (T : List Kd) : Prop := ∀ o, 0 < o → o < 213 → T[o]? = some (tyK (tyO o))
section OB
variable {T : List Kd} {m : Mm} {x : Int}
theorem tk_1 (hT : TT T) : T[1]? = some (9, 16) := hT 1 (by decide) (by decide)
theorem uq_2 : ∀ n : Nat, n < 213 → (tyO n : Int) = 2 → n = 2 := by decide +kernel
theorem pr_1_0 (hm : Gam m) : m 1 0 = 2 := by
  have h := (gc_2 rfl).mp (hm 1 (by decide) (by decide) 0 (by decide))
  have := uq_2 (m 1 0).toNat (by omega) h.2.2
  omega
theorem uq_4 : ∀ n : Nat, n < 213 → (tyO n : Int) = 4 → n = 4 := by decide +kernel
theorem pr_1_1 (hm : Gam m) : m 1 1 = 4 := by
  have h := (gc_2 rfl).mp (hm 1 (by decide) (by decide) 1 (by decide))
  have := uq_4 (m 1 1).toNat (by omega) h.2.2
  omega
theorem uq_13 : ∀ n : Nat, n < 213 → (tyO n : Int) = 13 → n = 13 := by decide +kernel
theorem pr_1_2 (hm : Gam m) : m 1 2 = 13 := by
  have h := (gc_2 rfl).mp (hm 1 (by decide) (by decide) 2 (by decide))
  have := uq_13 (m 1 2).toNat (by omega) h.2.2
  omega
theorem uq_22 : ∀ n : Nat, n < 213 → (tyO n : Int) = 22 → n = 22 := by decide +kernel
theorem pr_1_3 (hm : Gam m) : m 1 3 = 22 := by
  have h := (gc_2 rfl).mp (hm 1 (by decide) (by decide) 3 (by decide))
  have := uq_22 (m 1 3).toNat (by omega) h.2.2
  omega
theorem uq_25 : ∀ n : Nat, n < 213 → (tyO n : Int) = 25 → n = 25 := by decide +kernel
theorem pr_1_4 (hm : Gam m) : m 1 4 = 25 := by
  have h := (gc_2 rfl).mp (hm 1 (by decide) (by decide) 4 (by decide))
  have := uq_25 (m 1 4).toNat (by omega) h.2.2
  omega
theorem uq_28 : ∀ n : Nat, n < 213 → (tyO n : Int) = 28 → n = 28 := by decide +kernel
theorem pr_1_5 (hm : Gam m) : m 1 5 = 28 := by
  have h := (gc_2 rfl).mp (hm 1 (by decide) (by decide) 5 (by decide))
  have := uq_28 (m 1 5).toNat (by omega) h.2.2
  omega
theorem uq_41 : ∀ n : Nat, n < 213 → (tyO n : Int) = 41 → n = 41 := by decide +kernel
theorem pr_1_6 (hm : Gam m) : m 1 6 = 41 := by
  have h := (gc_2 rfl).mp (hm 1 (by decide) (by decide) 6 (by decide))
  have := uq_41 (m 1 6).toNat (by omega) h.2.2
  omega
theorem uq_54 : ∀ n : Nat, n < 213 → (tyO n : Int) = 54 → n = 54 := by decide +kernel
theorem pr_1_7 (hm : Gam m) : m 1 7 = 54 := by
  have h := (gc_2 rfl).mp (hm 1 (by decide) (by decide) 7 (by decide))
  have := uq_54 (m 1 7).toNat (by omega) h.2.2
  omega
theorem uq_62 : ∀ n : Nat, n < 213 → (tyO n : Int) = 62 → n = 98 := by decide +kernel
theorem pr_1_8 (hm : Gam m) : m 1 8 = 98 := by
  have h := (gc_2 rfl).mp (hm 1 (by decide) (by decide) 8 (by decide))
  have := uq_62 (m 1 8).toNat (by omega) h.2.2
  omega
theorem uq_70 : ∀ n : Nat, n < 213 → (tyO n : Int) = 70 → n = 142 := by decide +kernel
theorem pr_1_9 (hm : Gam m) : m 1 9 = 142 := by
  have h := (gc_2 rfl).mp (hm 1 (by decide) (by decide) 9 (by decide))
  have := uq_70 (m 1 9).toNat (by omega) h.2.2
  omega
theorem uq_72 : ∀ n : Nat, n < 213 → (tyO n : Int) = 72 → n = 144 := by decide +kernel
theorem pr_1_10 (hm : Gam m) : m 1 10 = 144 := by
  have h := (gc_2 rfl).mp (hm 1 (by decide) (by decide) 10 (by decide))
  have := uq_72 (m 1 10).toNat (by omega) h.2.2
  omega
theorem uq_73 : ∀ n : Nat, n < 213 → (tyO n : Int) = 73 → n = 145 := by decide +kernel
theorem pr_1_11 (hm : Gam m) : m 1 11 = 145 := by
  have h := (gc_2 rfl).mp (hm 1 (by decide) (by decide) 11 (by decide))
  have := uq_73 (m 1 11).toNat (by omega) h.2.2
  omega
theorem uq_76 : ∀ n : Nat, n < 213 → (tyO n : Int) = 76 → n = 154 := by decide +kernel
theorem pr_1_12 (hm : Gam m) : m 1 12 = 154 := by
  have h := (gc_2 rfl).mp (hm 1 (by decide) (by decide) 12 (by decide))
  have := uq_76 (m 1 12).toNat (by omega) h.2.2
  omega
theorem uq_77 : ∀ n : Nat, n < 213 → (tyO n : Int) = 77 → n = 155 := by decide +kernel
theorem pr_1_13 (hm : Gam m) : m 1 13 = 155 := by
  have h := (gc_2 rfl).mp (hm 1 (by decide) (by decide) 13 (by decide))
  have := uq_77 (m 1 13).toNat (by omega) h.2.2
  omega
theorem gb_1_14 (hm : Gam m) : (-2147483648) ≤ m 1 14 ∧ m 1 14 ≤ 2147483647 := (gc_0 rfl).mp (hm 1 (by decide) (by decide) 14 (by decide))
theorem gu_1_14 (hm : Gam m) (h1 : (-2147483648) ≤ x) (h2 : x ≤ 2147483647) : Gam (nu_up m 1 14 x) := Gam_up hm ((gc_0 rfl).mpr ⟨h1, h2⟩)
theorem gb_1_15 (hm : Gam m) : 0 ≤ m 1 15 ∧ m 1 15 ≤ 1 := (gc_0 rfl).mp (hm 1 (by decide) (by decide) 15 (by decide))
theorem gu_1_15 (hm : Gam m) (h1 : 0 ≤ x) (h2 : x ≤ 1) : Gam (nu_up m 1 15 x) := Gam_up hm ((gc_0 rfl).mpr ⟨h1, h2⟩)
theorem tk_2 (hT : TT T) : T[2]? = some (8, 7) := hT 2 (by decide) (by decide)
theorem uq_3 : ∀ n : Nat, n < 213 → (tyO n : Int) = 3 → n = 3 := by decide +kernel
theorem pr_2_0 (hm : Gam m) : m 2 0 = 3 := by
  have h := (gc_2 rfl).mp (hm 2 (by decide) (by decide) 0 (by decide))
  have := uq_3 (m 2 0).toNat (by omega) h.2.2
  omega
theorem gb_2_1 (hm : Gam m) : (-2147483648) ≤ m 2 1 ∧ m 2 1 ≤ 2147483647 := (gc_0 rfl).mp (hm 2 (by decide) (by decide) 1 (by decide))
theorem gu_2_1 (hm : Gam m) (h1 : (-2147483648) ≤ x) (h2 : x ≤ 2147483647) : Gam (nu_up m 2 1 x) := Gam_up hm ((gc_0 rfl).mpr ⟨h1, h2⟩)
theorem gb_2_2 (hm : Gam m) : (-2147483648) ≤ m 2 2 ∧ m 2 2 ≤ 2147483647 := (gc_0 rfl).mp (hm 2 (by decide) (by decide) 2 (by decide))
theorem gu_2_2 (hm : Gam m) (h1 : (-2147483648) ≤ x) (h2 : x ≤ 2147483647) : Gam (nu_up m 2 2 x) := Gam_up hm ((gc_0 rfl).mpr ⟨h1, h2⟩)
theorem gb_2_3 (hm : Gam m) : (-2147483648) ≤ m 2 3 ∧ m 2 3 ≤ 2147483647 := (gc_0 rfl).mp (hm 2 (by decide) (by decide) 3 (by decide))
theorem gu_2_3 (hm : Gam m) (h1 : (-2147483648) ≤ x) (h2 : x ≤ 2147483647) : Gam (nu_up m 2 3 x) := Gam_up hm ((gc_0 rfl).mpr ⟨h1, h2⟩)
theorem gb_2_4 (hm : Gam m) : (-2147483648) ≤ m 2 4 ∧ m 2 4 ≤ 2147483647 := (gc_0 rfl).mp (hm 2 (by decide) (by decide) 4 (by decide))
theorem gu_2_4 (hm : Gam m) (h1 : (-2147483648) ≤ x) (h2 : x ≤ 2147483647) : Gam (nu_up m 2 4 x) := Gam_up hm ((gc_0 rfl).mpr ⟨h1, h2⟩)
theorem gb_2_5 (hm : Gam m) : (-2147483648) ≤ m 2 5 ∧ m 2 5 ≤ 2147483647 := (gc_0 rfl).mp (hm 2 (by decide) (by decide) 5 (by decide))
theorem gu_2_5 (hm : Gam m) (h1 : (-2147483648) ≤ x) (h2 : x ≤ 2147483647) : Gam (nu_up m 2 5 x) := Gam_up hm ((gc_0 rfl).mpr ⟨h1, h2⟩)
theorem gb_2_6 (hm : Gam m) : (-2147483648) ≤ m 2 6 ∧ m 2 6 ≤ 2147483647 := (gc_0 rfl).mp (hm 2 (by decide) (by decide) 6 (by decide))
theorem gu_2_6 (hm : Gam m) (h1 : (-2147483648) ≤ x) (h2 : x ≤ 2147483647) : Gam (nu_up m 2 6 x) := Gam_up hm ((gc_0 rfl).mpr ⟨h1, h2⟩)
theorem tk_3 (hT : TT T) : T[3]? = some (100, 800) := hT 3 (by decide) (by decide)
theorem gb_3 (hm : Gam m) {i : Nat} (h : i < 800) : (-2147483648) ≤ m 3 i ∧ m 3 i ≤ 2147483647 := by
  have h1 := hm 3 (by decide) (by decide) i h
  rw [cU_ok (show cU (tyO 3) = some (0, (-2147483648), 2147483647) from rfl)] at h1
  exact (gc_0 rfl).mp h1
theorem gu_3 (hm : Gam m) {i : Nat} (h1 : (-2147483648) ≤ x) (h2 : x ≤ 2147483647) : Gam (nu_up m 3 i x) := Gam_up hm (by
  rw [cU_ok (show cU (tyO 3) = some (0, (-2147483648), 2147483647) from rfl)]
  exact (gc_0 rfl).mpr ⟨h1, h2⟩)
theorem tk_192 (hT : TT T) : T[192]? = some (10, 41) := hT 192 (by decide) (by decide)
theorem gb_192_0 (hm : Gam m) : (-2147483648) ≤ m 192 0 ∧ m 192 0 ≤ 2147483647 := (gc_0 rfl).mp (hm 192 (by decide) (by decide) 0 (by decide))
theorem gu_192_0 (hm : Gam m) (h1 : (-2147483648) ≤ x) (h2 : x ≤ 2147483647) : Gam (nu_up m 192 0 x) := Gam_up hm ((gc_0 rfl).mpr ⟨h1, h2⟩)
theorem uq_91 : ∀ n : Nat, n < 213 → (tyO n : Int) = 91 → n = 193 := by decide +kernel
theorem pr_192_1 (hm : Gam m) : m 192 1 = 193 := by
  have h := (gc_2 rfl).mp (hm 192 (by decide) (by decide) 1 (by decide))
  have := uq_91 (m 192 1).toNat (by omega) h.2.2
  omega
theorem uq_92 : ∀ n : Nat, n < 213 → (tyO n : Int) = 92 → n = 194 := by decide +kernel
theorem pr_192_2 (hm : Gam m) : m 192 2 = 194 := by
  have h := (gc_2 rfl).mp (hm 192 (by decide) (by decide) 2 (by decide))
  have := uq_92 (m 192 2).toNat (by omega) h.2.2
  omega
theorem uq_93 : ∀ n : Nat, n < 213 → (tyO n : Int) = 93 → n = 195 := by decide +kernel
theorem pr_192_3 (hm : Gam m) : m 192 3 = 195 := by
  have h := (gc_2 rfl).mp (hm 192 (by decide) (by decide) 3 (by decide))
  have := uq_93 (m 192 3).toNat (by omega) h.2.2
  omega
theorem uq_94 : ∀ n : Nat, n < 213 → (tyO n : Int) = 94 → n = 196 := by decide +kernel
theorem pr_192_4 (hm : Gam m) : m 192 4 = 196 := by
  have h := (gc_2 rfl).mp (hm 192 (by decide) (by decide) 4 (by decide))
  have := uq_94 (m 192 4).toNat (by omega) h.2.2
  omega
theorem gb_192_5 (hm : Gam m) : 0 ≤ m 192 5 ∧ m 192 5 ≤ 800 := (gc_0 rfl).mp (hm 192 (by decide) (by decide) 5 (by decide))
theorem gu_192_5 (hm : Gam m) (h1 : 0 ≤ x) (h2 : x ≤ 800) : Gam (nu_up m 192 5 x) := Gam_up hm ((gc_0 rfl).mpr ⟨h1, h2⟩)
theorem uq_95 : ∀ n : Nat, n < 213 → (tyO n : Int) = 95 → n = 197 := by decide +kernel
theorem pr_192_6 (hm : Gam m) : m 192 6 = 197 := by
  have h := (gc_2 rfl).mp (hm 192 (by decide) (by decide) 6 (by decide))
  have := uq_95 (m 192 6).toNat (by omega) h.2.2
  omega
theorem gb_192_7 (hm : Gam m) : 0 ≤ m 192 7 ∧ m 192 7 ≤ 800 := (gc_0 rfl).mp (hm 192 (by decide) (by decide) 7 (by decide))
theorem gu_192_7 (hm : Gam m) (h1 : 0 ≤ x) (h2 : x ≤ 800) : Gam (nu_up m 192 7 x) := Gam_up hm ((gc_0 rfl).mpr ⟨h1, h2⟩)
theorem gb_192_8 (hm : Gam m) : 0 ≤ m 192 8 ∧ m 192 8 ≤ 800 := (gc_0 rfl).mp (hm 192 (by decide) (by decide) 8 (by decide))
theorem gu_192_8 (hm : Gam m) (h1 : 0 ≤ x) (h2 : x ≤ 800) : Gam (nu_up m 192 8 x) := Gam_up hm ((gc_0 rfl).mpr ⟨h1, h2⟩)
theorem gb_192_9 (hm : Gam m) : 0 ≤ m 192 9 ∧ m 192 9 ≤ 800 := (gc_0 rfl).mp (hm 192 (by decide) (by decide) 9 (by decide))
theorem gu_192_9 (hm : Gam m) (h1 : 0 ≤ x) (h2 : x ≤ 800) : Gam (nu_up m 192 9 x) := Gam_up hm ((gc_0 rfl).mpr ⟨h1, h2⟩)
theorem gb_192_10 (hm : Gam m) : 0 ≤ m 192 10 ∧ m 192 10 ≤ 4 := (gc_0 rfl).mp (hm 192 (by decide) (by decide) 10 (by decide))
theorem gu_192_10 (hm : Gam m) (h1 : 0 ≤ x) (h2 : x ≤ 4) : Gam (nu_up m 192 10 x) := Gam_up hm ((gc_0 rfl).mpr ⟨h1, h2⟩)
theorem gb_192_11 (hm : Gam m) : (-2147483648) ≤ m 192 11 ∧ m 192 11 ≤ 2147483647 := (gc_0 rfl).mp (hm 192 (by decide) (by decide) 11 (by decide))
theorem gu_192_11 (hm : Gam m) (h1 : (-2147483648) ≤ x) (h2 : x ≤ 2147483647) : Gam (nu_up m 192 11 x) := Gam_up hm ((gc_0 rfl).mpr ⟨h1, h2⟩)
theorem gb_192_12 (hm : Gam m) : 0 ≤ m 192 12 ∧ m 192 12 ≤ 3 := (gc_0 rfl).mp (hm 192 (by decide) (by decide) 12 (by decide))
theorem gu_192_12 (hm : Gam m) (h1 : 0 ≤ x) (h2 : x ≤ 3) : Gam (nu_up m 192 12 x) := Gam_up hm ((gc_0 rfl).mpr ⟨h1, h2⟩)
theorem gb_192_13 (hm : Gam m) : (-2147483648) ≤ m 192 13 ∧ m 192 13 ≤ 2147483647 := (gc_0 rfl).mp (hm 192 (by decide) (by decide) 13 (by decide))
theorem gu_192_13 (hm : Gam m) (h1 : (-2147483648) ≤ x) (h2 : x ≤ 2147483647) : Gam (nu_up m 192 13 x) := Gam_up hm ((gc_0 rfl).mpr ⟨h1, h2⟩)
theorem uq_96 : ∀ n : Nat, n < 213 → (tyO n : Int) = 96 → n = 198 := by decide +kernel
theorem pr_192_14 (hm : Gam m) : m 192 14 = 198 := by
  have h := (gc_2 rfl).mp (hm 192 (by decide) (by decide) 14 (by decide))
  have := uq_96 (m 192 14).toNat (by omega) h.2.2
  omega
theorem uq_97 : ∀ n : Nat, n < 213 → (tyO n : Int) = 97 → n = 199 := by decide +kernel
theorem pr_192_15 (hm : Gam m) : m 192 15 = 199 := by
  have h := (gc_2 rfl).mp (hm 192 (by decide) (by decide) 15 (by decide))
  have := uq_97 (m 192 15).toNat (by omega) h.2.2
  omega
theorem uq_98 : ∀ n : Nat, n < 213 → (tyO n : Int) = 98 → n = 200 := by decide +kernel
theorem pr_192_16 (hm : Gam m) : m 192 16 = 200 := by
  have h := (gc_2 rfl).mp (hm 192 (by decide) (by decide) 16 (by decide))
  have := uq_98 (m 192 16).toNat (by omega) h.2.2
  omega
theorem uq_99 : ∀ n : Nat, n < 213 → (tyO n : Int) = 99 → n = 201 := by decide +kernel
theorem pr_192_17 (hm : Gam m) : m 192 17 = 201 := by
  have h := (gc_2 rfl).mp (hm 192 (by decide) (by decide) 17 (by decide))
  have := uq_99 (m 192 17).toNat (by omega) h.2.2
  omega
theorem uq_100 : ∀ n : Nat, n < 213 → (tyO n : Int) = 100 → n = 202 := by decide +kernel
theorem pr_192_18 (hm : Gam m) : m 192 18 = 202 := by
  have h := (gc_2 rfl).mp (hm 192 (by decide) (by decide) 18 (by decide))
  have := uq_100 (m 192 18).toNat (by omega) h.2.2
  omega
theorem uq_101 : ∀ n : Nat, n < 213 → (tyO n : Int) = 101 → n = 203 := by decide +kernel
theorem pr_192_19 (hm : Gam m) : m 192 19 = 203 := by
  have h := (gc_2 rfl).mp (hm 192 (by decide) (by decide) 19 (by decide))
  have := uq_101 (m 192 19).toNat (by omega) h.2.2
  omega
theorem uq_102 : ∀ n : Nat, n < 213 → (tyO n : Int) = 102 → n = 204 := by decide +kernel
theorem pr_192_20 (hm : Gam m) : m 192 20 = 204 := by
  have h := (gc_2 rfl).mp (hm 192 (by decide) (by decide) 20 (by decide))
  have := uq_102 (m 192 20).toNat (by omega) h.2.2
  omega
theorem gb_192_21 (hm : Gam m) : (-2147483648) ≤ m 192 21 ∧ m 192 21 ≤ 2147483647 := (gc_0 rfl).mp (hm 192 (by decide) (by decide) 21 (by decide))
theorem gu_192_21 (hm : Gam m) (h1 : (-2147483648) ≤ x) (h2 : x ≤ 2147483647) : Gam (nu_up m 192 21 x) := Gam_up hm ((gc_0 rfl).mpr ⟨h1, h2⟩)
theorem gb_192_22 (hm : Gam m) : (-2147483648) ≤ m 192 22 ∧ m 192 22 ≤ 2147483647 := (gc_0 rfl).mp (hm 192 (by decide) (by decide) 22 (by decide))
theorem gu_192_22 (hm : Gam m) (h1 : (-2147483648) ≤ x) (h2 : x ≤ 2147483647) : Gam (nu_up m 192 22 x) := Gam_up hm ((gc_0 rfl).mpr ⟨h1, h2⟩)
theorem gb_192_23 (hm : Gam m) : (-2147483648) ≤ m 192 23 ∧ m 192 23 ≤ 2147483647 := (gc_0 rfl).mp (hm 192 (by decide) (by decide) 23 (by decide))
theorem gu_192_23 (hm : Gam m) (h1 : (-2147483648) ≤ x) (h2 : x ≤ 2147483647) : Gam (nu_up m 192 23 x) := Gam_up hm ((gc_0 rfl).mpr ⟨h1, h2⟩)
theorem gb_192_24 (hm : Gam m) : (-2147483648) ≤ m 192 24 ∧ m 192 24 ≤ 2147483647 := (gc_0 rfl).mp (hm 192 (by decide) (by decide) 24 (by decide))
theorem gu_192_24 (hm : Gam m) (h1 : (-2147483648) ≤ x) (h2 : x ≤ 2147483647) : Gam (nu_up m 192 24 x) := Gam_up hm ((gc_0 rfl).mpr ⟨h1, h2⟩)
theorem gb_192_25 (hm : Gam m) : (-2147483648) ≤ m 192 25 ∧ m 192 25 ≤ 2147483647 := (gc_0 rfl).mp (hm 192 (by decide) (by decide) 25 (by decide))
theorem gu_192_25 (hm : Gam m) (h1 : (-2147483648) ≤ x) (h2 : x ≤ 2147483647) : Gam (nu_up m 192 25 x) := Gam_up hm ((gc_0 rfl).mpr ⟨h1, h2⟩)
theorem gb_192_26 (hm : Gam m) : (-2147483648) ≤ m 192 26 ∧ m 192 26 ≤ 2147483647 := (gc_0 rfl).mp (hm 192 (by decide) (by decide) 26 (by decide))
theorem gu_192_26 (hm : Gam m) (h1 : (-2147483648) ≤ x) (h2 : x ≤ 2147483647) : Gam (nu_up m 192 26 x) := Gam_up hm ((gc_0 rfl).mpr ⟨h1, h2⟩)
theorem gb_192_27 (hm : Gam m) : (-2147483648) ≤ m 192 27 ∧ m 192 27 ≤ 2147483647 := (gc_0 rfl).mp (hm 192 (by decide) (by decide) 27 (by decide))
theorem gu_192_27 (hm : Gam m) (h1 : (-2147483648) ≤ x) (h2 : x ≤ 2147483647) : Gam (nu_up m 192 27 x) := Gam_up hm ((gc_0 rfl).mpr ⟨h1, h2⟩)
theorem gb_192_28 (hm : Gam m) : (-2147483648) ≤ m 192 28 ∧ m 192 28 ≤ 2147483647 := (gc_0 rfl).mp (hm 192 (by decide) (by decide) 28 (by decide))
theorem gu_192_28 (hm : Gam m) (h1 : (-2147483648) ≤ x) (h2 : x ≤ 2147483647) : Gam (nu_up m 192 28 x) := Gam_up hm ((gc_0 rfl).mpr ⟨h1, h2⟩)
theorem uq_103 : ∀ n : Nat, n < 213 → (tyO n : Int) = 103 → n = 205 := by decide +kernel
theorem pr_192_29 (hm : Gam m) : m 192 29 = 205 := by
  have h := (gc_2 rfl).mp (hm 192 (by decide) (by decide) 29 (by decide))
  have := uq_103 (m 192 29).toNat (by omega) h.2.2
  omega
theorem uq_104 : ∀ n : Nat, n < 213 → (tyO n : Int) = 104 → n = 206 := by decide +kernel
theorem pr_192_30 (hm : Gam m) : m 192 30 = 206 := by
  have h := (gc_2 rfl).mp (hm 192 (by decide) (by decide) 30 (by decide))
  have := uq_104 (m 192 30).toNat (by omega) h.2.2
  omega
theorem gb_192_31 (hm : Gam m) : (-2147483648) ≤ m 192 31 ∧ m 192 31 ≤ 2147483647 := (gc_0 rfl).mp (hm 192 (by decide) (by decide) 31 (by decide))
theorem gu_192_31 (hm : Gam m) (h1 : (-2147483648) ≤ x) (h2 : x ≤ 2147483647) : Gam (nu_up m 192 31 x) := Gam_up hm ((gc_0 rfl).mpr ⟨h1, h2⟩)
theorem uq_105 : ∀ n : Nat, n < 213 → (tyO n : Int) = 105 → n = 207 := by decide +kernel
theorem pr_192_32 (hm : Gam m) : m 192 32 = 207 := by
  have h := (gc_2 rfl).mp (hm 192 (by decide) (by decide) 32 (by decide))
  have := uq_105 (m 192 32).toNat (by omega) h.2.2
  omega
theorem uq_106 : ∀ n : Nat, n < 213 → (tyO n : Int) = 106 → n = 208 := by decide +kernel
theorem pr_192_33 (hm : Gam m) : m 192 33 = 208 := by
  have h := (gc_2 rfl).mp (hm 192 (by decide) (by decide) 33 (by decide))
  have := uq_106 (m 192 33).toNat (by omega) h.2.2
  omega
theorem gb_192_34 (hm : Gam m) : 0 ≤ m 192 34 ∧ m 192 34 ≤ 91 := (gc_0 rfl).mp (hm 192 (by decide) (by decide) 34 (by decide))
theorem gu_192_34 (hm : Gam m) (h1 : 0 ≤ x) (h2 : x ≤ 91) : Gam (nu_up m 192 34 x) := Gam_up hm ((gc_0 rfl).mpr ⟨h1, h2⟩)
theorem gb_192_35 (hm : Gam m) : (-2147483648) ≤ m 192 35 ∧ m 192 35 ≤ 2147483647 := (gc_0 rfl).mp (hm 192 (by decide) (by decide) 35 (by decide))
theorem gu_192_35 (hm : Gam m) (h1 : (-2147483648) ≤ x) (h2 : x ≤ 2147483647) : Gam (nu_up m 192 35 x) := Gam_up hm ((gc_0 rfl).mpr ⟨h1, h2⟩)
theorem gb_192_36 (hm : Gam m) : (-2147483648) ≤ m 192 36 ∧ m 192 36 ≤ 2147483647 := (gc_0 rfl).mp (hm 192 (by decide) (by decide) 36 (by decide))
theorem gu_192_36 (hm : Gam m) (h1 : (-2147483648) ≤ x) (h2 : x ≤ 2147483647) : Gam (nu_up m 192 36 x) := Gam_up hm ((gc_0 rfl).mpr ⟨h1, h2⟩)
theorem uq_107 : ∀ n : Nat, n < 213 → (tyO n : Int) = 107 → n = 209 := by decide +kernel
theorem pr_192_37 (hm : Gam m) : m 192 37 = 209 := by
  have h := (gc_2 rfl).mp (hm 192 (by decide) (by decide) 37 (by decide))
  have := uq_107 (m 192 37).toNat (by omega) h.2.2
  omega
theorem uq_108 : ∀ n : Nat, n < 213 → (tyO n : Int) = 108 → n = 210 := by decide +kernel
theorem pr_192_38 (hm : Gam m) : m 192 38 = 210 := by
  have h := (gc_2 rfl).mp (hm 192 (by decide) (by decide) 38 (by decide))
  have := uq_108 (m 192 38).toNat (by omega) h.2.2
  omega
theorem uq_109 : ∀ n : Nat, n < 213 → (tyO n : Int) = 109 → n = 211 := by decide +kernel
theorem pr_192_39 (hm : Gam m) : m 192 39 = 211 := by
  have h := (gc_2 rfl).mp (hm 192 (by decide) (by decide) 39 (by decide))
  have := uq_109 (m 192 39).toNat (by omega) h.2.2
  omega
theorem uq_110 : ∀ n : Nat, n < 213 → (tyO n : Int) = 110 → n = 212 := by decide +kernel
theorem pr_192_40 (hm : Gam m) : m 192 40 = 212 := by
  have h := (gc_2 rfl).mp (hm 192 (by decide) (by decide) 40 (by decide))
  have := uq_110 (m 192 40).toNat (by omega) h.2.2
  omega
theorem tk_193 (hT : TT T) : T[193]? = some (100, 69) := hT 193 (by decide) (by decide)
theorem tk_194 (hT : TT T) : T[194]? = some (100, 207) := hT 194 (by decide) (by decide)
theorem tk_195 (hT : TT T) : T[195]? = some (103, 3) := hT 195 (by decide) (by decide)
theorem gb_195 (hm : Gam m) {i : Nat} (h : i < 3) : 0 ≤ m 195 i ∧ m 195 i ≤ 1 := by
  have h1 := hm 195 (by decide) (by decide) i h
  rw [cU_ok (show cU (tyO 195) = some (0, 0, 1) from rfl)] at h1
  exact (gc_0 rfl).mp h1
theorem gu_195 (hm : Gam m) {i : Nat} (h1 : 0 ≤ x) (h2 : x ≤ 1) : Gam (nu_up m 195 i x) := Gam_up hm (by
  rw [cU_ok (show cU (tyO 195) = some (0, 0, 1) from rfl)]
  exact (gc_0 rfl).mpr ⟨h1, h2⟩)
theorem tk_196 (hT : TT T) : T[196]? = some (102, 800) := hT 196 (by decide) (by decide)
theorem gb_196 (hm : Gam m) {i : Nat} (h : i < 800) : (-128) ≤ m 196 i ∧ m 196 i ≤ 127 := by
  have h1 := hm 196 (by decide) (by decide) i h
  rw [cU_ok (show cU (tyO 196) = some (0, (-128), 127) from rfl)] at h1
  exact (gc_0 rfl).mp h1
theorem gu_196 (hm : Gam m) {i : Nat} (h1 : (-128) ≤ x) (h2 : x ≤ 127) : Gam (nu_up m 196 i x) := Gam_up hm (by
  rw [cU_ok (show cU (tyO 196) = some (0, (-128), 127) from rfl)]
  exact (gc_0 rfl).mpr ⟨h1, h2⟩)
theorem tk_197 (hT : TT T) : T[197]? = some (100, 5) := hT 197 (by decide) (by decide)
theorem gb_197 (hm : Gam m) {i : Nat} (h : i < 5) : (-2147483648) ≤ m 197 i ∧ m 197 i ≤ 2147483647 := by
  have h1 := hm 197 (by decide) (by decide) i h
  rw [cU_ok (show cU (tyO 197) = some (0, (-2147483648), 2147483647) from rfl)] at h1
  exact (gc_0 rfl).mp h1
theorem gu_197 (hm : Gam m) {i : Nat} (h1 : (-2147483648) ≤ x) (h2 : x ≤ 2147483647) : Gam (nu_up m 197 i x) := Gam_up hm (by
  rw [cU_ok (show cU (tyO 197) = some (0, (-2147483648), 2147483647) from rfl)]
  exact (gc_0 rfl).mpr ⟨h1, h2⟩)
theorem tk_198 (hT : TT T) : T[198]? = some (100, 69) := hT 198 (by decide) (by decide)
theorem tk_199 (hT : TT T) : T[199]? = some (100, 49) := hT 199 (by decide) (by decide)
theorem gb_199 (hm : Gam m) {i : Nat} (h : i < 49) : 0 ≤ m 199 i ∧ m 199 i ≤ 1000000000 := by
  have h1 := hm 199 (by decide) (by decide) i h
  rw [cU_ok (show cU (tyO 199) = some (0, 0, 1000000000) from rfl)] at h1
  exact (gc_0 rfl).mp h1
theorem gu_199 (hm : Gam m) {i : Nat} (h1 : 0 ≤ x) (h2 : x ≤ 1000000000) : Gam (nu_up m 199 i x) := Gam_up hm (by
  rw [cU_ok (show cU (tyO 199) = some (0, 0, 1000000000) from rfl)]
  exact (gc_0 rfl).mpr ⟨h1, h2⟩)
theorem tk_200 (hT : TT T) : T[200]? = some (100, 208) := hT 200 (by decide) (by decide)
theorem tk_201 (hT : TT T) : T[201]? = some (100, 12) := hT 201 (by decide) (by decide)
theorem gb_201 (hm : Gam m) {i : Nat} (h : i < 12) : 0 ≤ m 201 i ∧ m 201 i ≤ 5 := by
  have h1 := hm 201 (by decide) (by decide) i h
  rw [cU_ok (show cU (tyO 201) = some (0, 0, 5) from rfl)] at h1
  exact (gc_0 rfl).mp h1
theorem gu_201 (hm : Gam m) {i : Nat} (h1 : 0 ≤ x) (h2 : x ≤ 5) : Gam (nu_up m 201 i x) := Gam_up hm (by
  rw [cU_ok (show cU (tyO 201) = some (0, 0, 5) from rfl)]
  exact (gc_0 rfl).mpr ⟨h1, h2⟩)
theorem tk_202 (hT : TT T) : T[202]? = some (100, 12) := hT 202 (by decide) (by decide)
theorem gb_202 (hm : Gam m) {i : Nat} (h : i < 12) : 0 ≤ m 202 i ∧ m 202 i ≤ 1 := by
  have h1 := hm 202 (by decide) (by decide) i h
  rw [cU_ok (show cU (tyO 202) = some (0, 0, 1) from rfl)] at h1
  exact (gc_0 rfl).mp h1
theorem gu_202 (hm : Gam m) {i : Nat} (h1 : 0 ≤ x) (h2 : x ≤ 1) : Gam (nu_up m 202 i x) := Gam_up hm (by
  rw [cU_ok (show cU (tyO 202) = some (0, 0, 1) from rfl)]
  exact (gc_0 rfl).mpr ⟨h1, h2⟩)
theorem tk_203 (hT : TT T) : T[203]? = some (100, 12) := hT 203 (by decide) (by decide)
theorem gb_203 (hm : Gam m) {i : Nat} (h : i < 12) : 0 ≤ m 203 i ∧ m 203 i ≤ 16 := by
  have h1 := hm 203 (by decide) (by decide) i h
  rw [cU_ok (show cU (tyO 203) = some (0, 0, 16) from rfl)] at h1
  exact (gc_0 rfl).mp h1
theorem gu_203 (hm : Gam m) {i : Nat} (h1 : 0 ≤ x) (h2 : x ≤ 16) : Gam (nu_up m 203 i x) := Gam_up hm (by
  rw [cU_ok (show cU (tyO 203) = some (0, 0, 16) from rfl)]
  exact (gc_0 rfl).mpr ⟨h1, h2⟩)
theorem tk_204 (hT : TT T) : T[204]? = some (100, 5) := hT 204 (by decide) (by decide)
theorem gb_204 (hm : Gam m) {i : Nat} (h : i < 5) : (-2147483648) ≤ m 204 i ∧ m 204 i ≤ 2147483647 := by
  have h1 := hm 204 (by decide) (by decide) i h
  rw [cU_ok (show cU (tyO 204) = some (0, (-2147483648), 2147483647) from rfl)] at h1
  exact (gc_0 rfl).mp h1
theorem gu_204 (hm : Gam m) {i : Nat} (h1 : (-2147483648) ≤ x) (h2 : x ≤ 2147483647) : Gam (nu_up m 204 i x) := Gam_up hm (by
  rw [cU_ok (show cU (tyO 204) = some (0, (-2147483648), 2147483647) from rfl)]
  exact (gc_0 rfl).mpr ⟨h1, h2⟩)
theorem tk_205 (hT : TT T) : T[205]? = some (100, 12) := hT 205 (by decide) (by decide)
theorem gb_205 (hm : Gam m) {i : Nat} (h : i < 12) : (-2147483648) ≤ m 205 i ∧ m 205 i ≤ 2147483647 := by
  have h1 := hm 205 (by decide) (by decide) i h
  rw [cU_ok (show cU (tyO 205) = some (0, (-2147483648), 2147483647) from rfl)] at h1
  exact (gc_0 rfl).mp h1
theorem gu_205 (hm : Gam m) {i : Nat} (h1 : (-2147483648) ≤ x) (h2 : x ≤ 2147483647) : Gam (nu_up m 205 i x) := Gam_up hm (by
  rw [cU_ok (show cU (tyO 205) = some (0, (-2147483648), 2147483647) from rfl)]
  exact (gc_0 rfl).mpr ⟨h1, h2⟩)
theorem tk_206 (hT : TT T) : T[206]? = some (100, 12) := hT 206 (by decide) (by decide)
theorem gb_206 (hm : Gam m) {i : Nat} (h : i < 12) : (-2147483648) ≤ m 206 i ∧ m 206 i ≤ 2147483647 := by
  have h1 := hm 206 (by decide) (by decide) i h
  rw [cU_ok (show cU (tyO 206) = some (0, (-2147483648), 2147483647) from rfl)] at h1
  exact (gc_0 rfl).mp h1
theorem gu_206 (hm : Gam m) {i : Nat} (h1 : (-2147483648) ≤ x) (h2 : x ≤ 2147483647) : Gam (nu_up m 206 i x) := Gam_up hm (by
  rw [cU_ok (show cU (tyO 206) = some (0, (-2147483648), 2147483647) from rfl)]
  exact (gc_0 rfl).mpr ⟨h1, h2⟩)
theorem tk_207 (hT : TT T) : T[207]? = some (100, 91) := hT 207 (by decide) (by decide)
theorem gb_207 (hm : Gam m) {i : Nat} (h : i < 91) : 0 ≤ m 207 i ∧ m 207 i ≤ 126 := by
  have h1 := hm 207 (by decide) (by decide) i h
  rw [cU_ok (show cU (tyO 207) = some (0, 0, 126) from rfl)] at h1
  exact (gc_0 rfl).mp h1
theorem gu_207 (hm : Gam m) {i : Nat} (h1 : 0 ≤ x) (h2 : x ≤ 126) : Gam (nu_up m 207 i x) := Gam_up hm (by
  rw [cU_ok (show cU (tyO 207) = some (0, 0, 126) from rfl)]
  exact (gc_0 rfl).mpr ⟨h1, h2⟩)
theorem tk_208 (hT : TT T) : T[208]? = some (100, 455) := hT 208 (by decide) (by decide)
theorem gb_208 (hm : Gam m) {i : Nat} (h : i < 455) : (-2147483648) ≤ m 208 i ∧ m 208 i ≤ 2147483647 := by
  have h1 := hm 208 (by decide) (by decide) i h
  rw [cU_ok (show cU (tyO 208) = some (0, (-2147483648), 2147483647) from rfl)] at h1
  exact (gc_0 rfl).mp h1
theorem gu_208 (hm : Gam m) {i : Nat} (h1 : (-2147483648) ≤ x) (h2 : x ≤ 2147483647) : Gam (nu_up m 208 i x) := Gam_up hm (by
  rw [cU_ok (show cU (tyO 208) = some (0, (-2147483648), 2147483647) from rfl)]
  exact (gc_0 rfl).mpr ⟨h1, h2⟩)
theorem tk_209 (hT : TT T) : T[209]? = some (100, 4) := hT 209 (by decide) (by decide)
theorem gb_209 (hm : Gam m) {i : Nat} (h : i < 4) : (-1) ≤ m 209 i ∧ m 209 i ≤ 60 := by
  have h1 := hm 209 (by decide) (by decide) i h
  rw [cU_ok (show cU (tyO 209) = some (0, (-1), 60) from rfl)] at h1
  exact (gc_0 rfl).mp h1
theorem gu_209 (hm : Gam m) {i : Nat} (h1 : (-1) ≤ x) (h2 : x ≤ 60) : Gam (nu_up m 209 i x) := Gam_up hm (by
  rw [cU_ok (show cU (tyO 209) = some (0, (-1), 60) from rfl)]
  exact (gc_0 rfl).mpr ⟨h1, h2⟩)
theorem tk_210 (hT : TT T) : T[210]? = some (100, 4) := hT 210 (by decide) (by decide)
theorem gb_210 (hm : Gam m) {i : Nat} (h : i < 4) : 0 ≤ m 210 i ∧ m 210 i ≤ 3 := by
  have h1 := hm 210 (by decide) (by decide) i h
  rw [cU_ok (show cU (tyO 210) = some (0, 0, 3) from rfl)] at h1
  exact (gc_0 rfl).mp h1
theorem gu_210 (hm : Gam m) {i : Nat} (h1 : 0 ≤ x) (h2 : x ≤ 3) : Gam (nu_up m 210 i x) := Gam_up hm (by
  rw [cU_ok (show cU (tyO 210) = some (0, 0, 3) from rfl)]
  exact (gc_0 rfl).mpr ⟨h1, h2⟩)
theorem tk_211 (hT : TT T) : T[211]? = some (101, 240) := hT 211 (by decide) (by decide)
theorem gb_211 (hm : Gam m) {i : Nat} (h : i < 240) : (-9223372036854775808) ≤ m 211 i ∧ m 211 i ≤ 9223372036854775807 := by
  have h1 := hm 211 (by decide) (by decide) i h
  rw [cU_ok (show cU (tyO 211) = some (1, (-9223372036854775808), 9223372036854775807) from rfl)] at h1
  exact (gc_1 rfl).mp h1
theorem gu_211 (hm : Gam m) {i : Nat} (h1 : (-9223372036854775808) ≤ x) (h2 : x ≤ 9223372036854775807) : Gam (nu_up m 211 i x) := Gam_up hm (by
  rw [cU_ok (show cU (tyO 211) = some (1, (-9223372036854775808), 9223372036854775807) from rfl)]
  exact (gc_1 rfl).mpr ⟨h1, h2⟩)
theorem tk_212 (hT : TT T) : T[212]? = some (101, 60) := hT 212 (by decide) (by decide)
theorem gb_212 (hm : Gam m) {i : Nat} (h : i < 60) : (-9223372036854775808) ≤ m 212 i ∧ m 212 i ≤ 9223372036854775807 := by
  have h1 := hm 212 (by decide) (by decide) i h
  rw [cU_ok (show cU (tyO 212) = some (1, (-9223372036854775808), 9223372036854775807) from rfl)] at h1
  exact (gc_1 rfl).mp h1
theorem gu_212 (hm : Gam m) {i : Nat} (h1 : (-9223372036854775808) ≤ x) (h2 : x ≤ 9223372036854775807) : Gam (nu_up m 212 i x) := Gam_up hm (by
  rw [cU_ok (show cU (tyO 212) = some (1, (-9223372036854775808), 9223372036854775807) from rfl)]
  exact (gc_1 rfl).mpr ⟨h1, h2⟩)
theorem gb_193_0 (hm : Gam m) : 0 ≤ m 193 0 ∧ m 193 0 ≤ 7 := (gc_0 rfl).mp (hm 193 (by decide) (by decide) 0 (by decide))
theorem gu_193_0 (hm : Gam m) (h1 : 0 ≤ x) (h2 : x ≤ 7) : Gam (nu_up m 193 0 x) := Gam_up hm ((gc_0 rfl).mpr ⟨h1, h2⟩)
theorem gb_193_1 (hm : Gam m) : 0 ≤ m 193 1 ∧ m 193 1 ≤ 12 := (gc_0 rfl).mp (hm 193 (by decide) (by decide) 1 (by decide))
theorem gu_193_1 (hm : Gam m) (h1 : 0 ≤ x) (h2 : x ≤ 12) : Gam (nu_up m 193 1 x) := Gam_up hm ((gc_0 rfl).mpr ⟨h1, h2⟩)
theorem gb_193_2 (hm : Gam m) : 0 ≤ m 193 2 ∧ m 193 2 ≤ 20 := (gc_0 rfl).mp (hm 193 (by decide) (by decide) 2 (by decide))
theorem gu_193_2 (hm : Gam m) (h1 : 0 ≤ x) (h2 : x ≤ 20) : Gam (nu_up m 193 2 x) := Gam_up hm ((gc_0 rfl).mpr ⟨h1, h2⟩)
theorem gb_193_3 (hm : Gam m) : 0 ≤ m 193 3 ∧ m 193 3 ≤ 10 := (gc_0 rfl).mp (hm 193 (by decide) (by decide) 3 (by decide))
theorem gu_193_3 (hm : Gam m) (h1 : 0 ≤ x) (h2 : x ≤ 10) : Gam (nu_up m 193 3 x) := Gam_up hm ((gc_0 rfl).mpr ⟨h1, h2⟩)
theorem gb_193_4 (hm : Gam m) : 0 ≤ m 193 4 ∧ m 193 4 ≤ 10 := (gc_0 rfl).mp (hm 193 (by decide) (by decide) 4 (by decide))
theorem gu_193_4 (hm : Gam m) (h1 : 0 ≤ x) (h2 : x ≤ 10) : Gam (nu_up m 193 4 x) := Gam_up hm ((gc_0 rfl).mpr ⟨h1, h2⟩)
theorem gb_193_5 (hm : Gam m) : 0 ≤ m 193 5 ∧ m 193 5 ≤ 5 := (gc_0 rfl).mp (hm 193 (by decide) (by decide) 5 (by decide))
theorem gu_193_5 (hm : Gam m) (h1 : 0 ≤ x) (h2 : x ≤ 5) : Gam (nu_up m 193 5 x) := Gam_up hm ((gc_0 rfl).mpr ⟨h1, h2⟩)
theorem gb_193_6 (hm : Gam m) : 0 ≤ m 193 6 ∧ m 193 6 ≤ 3 := (gc_0 rfl).mp (hm 193 (by decide) (by decide) 6 (by decide))
theorem gu_193_6 (hm : Gam m) (h1 : 0 ≤ x) (h2 : x ≤ 3) : Gam (nu_up m 193 6 x) := Gam_up hm ((gc_0 rfl).mpr ⟨h1, h2⟩)
theorem gb_193_7 (hm : Gam m) : 0 ≤ m 193 7 ∧ m 193 7 ≤ 5 := (gc_0 rfl).mp (hm 193 (by decide) (by decide) 7 (by decide))
theorem gu_193_7 (hm : Gam m) (h1 : 0 ≤ x) (h2 : x ≤ 5) : Gam (nu_up m 193 7 x) := Gam_up hm ((gc_0 rfl).mpr ⟨h1, h2⟩)
theorem gb_193_8 (hm : Gam m) : 0 ≤ m 193 8 ∧ m 193 8 ≤ 12 := (gc_0 rfl).mp (hm 193 (by decide) (by decide) 8 (by decide))
theorem gu_193_8 (hm : Gam m) (h1 : 0 ≤ x) (h2 : x ≤ 12) : Gam (nu_up m 193 8 x) := Gam_up hm ((gc_0 rfl).mpr ⟨h1, h2⟩)
theorem gb_193_9 (hm : Gam m) : 0 ≤ m 193 9 ∧ m 193 9 ≤ 2147483647 := (gc_0 rfl).mp (hm 193 (by decide) (by decide) 9 (by decide))
theorem gu_193_9 (hm : Gam m) (h1 : 0 ≤ x) (h2 : x ≤ 2147483647) : Gam (nu_up m 193 9 x) := Gam_up hm ((gc_0 rfl).mpr ⟨h1, h2⟩)
theorem gb_193_10 (hm : Gam m) : (-2147483648) ≤ m 193 10 ∧ m 193 10 ≤ 2147483647 := (gc_0 rfl).mp (hm 193 (by decide) (by decide) 10 (by decide))
theorem gu_193_10 (hm : Gam m) (h1 : (-2147483648) ≤ x) (h2 : x ≤ 2147483647) : Gam (nu_up m 193 10 x) := Gam_up hm ((gc_0 rfl).mpr ⟨h1, h2⟩)
theorem gt_193_pa : ∀ k : Nat, k < 20 → cT (tyO 193) (11 + k) = (0, 0, 6) ∧ 11 + k < 69 := by decide +kernel
theorem gb_193_pa (hm : Gam m) {k : Nat} (h : k < 20) : 0 ≤ m 193 (11 + k) ∧ m 193 (11 + k) ≤ 6 := by
  obtain ⟨h1, h2⟩ := gt_193_pa k h
  have h3 := hm 193 (by decide) (by decide) _ h2
  rw [h1] at h3
  exact (gc_0 rfl).mp h3
theorem gu_193_pa (hm : Gam m) {k : Nat} (h : k < 20) (h1 : 0 ≤ x) (h2 : x ≤ 6) : Gam (nu_up m 193 (11 + k) x) := Gam_up hm (by
  rw [(gt_193_pa k h).1]
  exact (gc_0 rfl).mpr ⟨h1, h2⟩)
theorem gt_193_tp : ∀ k : Nat, k < 5 → cT (tyO 193) (31 + 2 * k) = (0, 0, 6) ∧ 31 + 2 * k < 69 := by decide +kernel
theorem gb_193_tp (hm : Gam m) {k : Nat} (h : k < 5) : 0 ≤ m 193 (31 + 2 * k) ∧ m 193 (31 + 2 * k) ≤ 6 := by
  obtain ⟨h1, h2⟩ := gt_193_tp k h
  have h3 := hm 193 (by decide) (by decide) _ h2
  rw [h1] at h3
  exact (gc_0 rfl).mp h3
theorem gu_193_tp (hm : Gam m) {k : Nat} (h : k < 5) (h1 : 0 ≤ x) (h2 : x ≤ 6) : Gam (nu_up m 193 (31 + 2 * k) x) := Gam_up hm (by
  rw [(gt_193_tp k h).1]
  exact (gc_0 rfl).mpr ⟨h1, h2⟩)
theorem gt_193_tf : ∀ k : Nat, k < 5 → cT (tyO 193) (32 + 2 * k) = (0, 0, 9) ∧ 32 + 2 * k < 69 := by decide +kernel
theorem gb_193_tf (hm : Gam m) {k : Nat} (h : k < 5) : 0 ≤ m 193 (32 + 2 * k) ∧ m 193 (32 + 2 * k) ≤ 9 := by
  obtain ⟨h1, h2⟩ := gt_193_tf k h
  have h3 := hm 193 (by decide) (by decide) _ h2
  rw [h1] at h3
  exact (gc_0 rfl).mp h3
theorem gu_193_tf (hm : Gam m) {k : Nat} (h : k < 5) (h1 : 0 ≤ x) (h2 : x ≤ 9) : Gam (nu_up m 193 (32 + 2 * k) x) := Gam_up hm (by
  rw [(gt_193_tf k h).1]
  exact (gc_0 rfl).mpr ⟨h1, h2⟩)
theorem gt_193_vp : ∀ k : Nat, k < 3 → cT (tyO 193) (41 + 2 * k) = (0, 0, 6) ∧ 41 + 2 * k < 69 := by decide +kernel
theorem gb_193_vp (hm : Gam m) {k : Nat} (h : k < 3) : 0 ≤ m 193 (41 + 2 * k) ∧ m 193 (41 + 2 * k) ≤ 6 := by
  obtain ⟨h1, h2⟩ := gt_193_vp k h
  have h3 := hm 193 (by decide) (by decide) _ h2
  rw [h1] at h3
  exact (gc_0 rfl).mp h3
theorem gu_193_vp (hm : Gam m) {k : Nat} (h : k < 3) (h1 : 0 ≤ x) (h2 : x ≤ 6) : Gam (nu_up m 193 (41 + 2 * k) x) := Gam_up hm (by
  rw [(gt_193_vp k h).1]
  exact (gc_0 rfl).mpr ⟨h1, h2⟩)
theorem gt_193_vr : ∀ k : Nat, k < 3 → cT (tyO 193) (42 + 2 * k) = (0, 0, 12) ∧ 42 + 2 * k < 69 := by decide +kernel
theorem gb_193_vr (hm : Gam m) {k : Nat} (h : k < 3) : 0 ≤ m 193 (42 + 2 * k) ∧ m 193 (42 + 2 * k) ≤ 12 := by
  obtain ⟨h1, h2⟩ := gt_193_vr k h
  have h3 := hm 193 (by decide) (by decide) _ h2
  rw [h1] at h3
  exact (gc_0 rfl).mp h3
theorem gu_193_vr (hm : Gam m) {k : Nat} (h : k < 3) (h1 : 0 ≤ x) (h2 : x ≤ 12) : Gam (nu_up m 193 (42 + 2 * k) x) := Gam_up hm (by
  rw [(gt_193_vr k h).1]
  exact (gc_0 rfl).mpr ⟨h1, h2⟩)
theorem gt_193_bp : ∀ k : Nat, k < 5 → cT (tyO 193) (47 + 2 * k) = (0, 0, 6) ∧ 47 + 2 * k < 69 := by decide +kernel
theorem gb_193_bp (hm : Gam m) {k : Nat} (h : k < 5) : 0 ≤ m 193 (47 + 2 * k) ∧ m 193 (47 + 2 * k) ≤ 6 := by
  obtain ⟨h1, h2⟩ := gt_193_bp k h
  have h3 := hm 193 (by decide) (by decide) _ h2
  rw [h1] at h3
  exact (gc_0 rfl).mp h3
theorem gu_193_bp (hm : Gam m) {k : Nat} (h : k < 5) (h1 : 0 ≤ x) (h2 : x ≤ 6) : Gam (nu_up m 193 (47 + 2 * k) x) := Gam_up hm (by
  rw [(gt_193_bp k h).1]
  exact (gc_0 rfl).mpr ⟨h1, h2⟩)
theorem gt_193_bs : ∀ k : Nat, k < 5 → cT (tyO 193) (48 + 2 * k) = (0, 0, 99) ∧ 48 + 2 * k < 69 := by decide +kernel
theorem gb_193_bs (hm : Gam m) {k : Nat} (h : k < 5) : 0 ≤ m 193 (48 + 2 * k) ∧ m 193 (48 + 2 * k) ≤ 99 := by
  obtain ⟨h1, h2⟩ := gt_193_bs k h
  have h3 := hm 193 (by decide) (by decide) _ h2
  rw [h1] at h3
  exact (gc_0 rfl).mp h3
theorem gu_193_bs (hm : Gam m) {k : Nat} (h : k < 5) (h1 : 0 ≤ x) (h2 : x ≤ 99) : Gam (nu_up m 193 (48 + 2 * k) x) := Gam_up hm (by
  rw [(gt_193_bs k h).1]
  exact (gc_0 rfl).mpr ⟨h1, h2⟩)
theorem gt_193_ac : ∀ k : Nat, k < 12 → cT (tyO 193) (57 + k) = (0, 0, 1199) ∧ 57 + k < 69 := by decide +kernel
theorem gb_193_ac (hm : Gam m) {k : Nat} (h : k < 12) : 0 ≤ m 193 (57 + k) ∧ m 193 (57 + k) ≤ 1199 := by
  obtain ⟨h1, h2⟩ := gt_193_ac k h
  have h3 := hm 193 (by decide) (by decide) _ h2
  rw [h1] at h3
  exact (gc_0 rfl).mp h3
theorem gu_193_ac (hm : Gam m) {k : Nat} (h : k < 12) (h1 : 0 ≤ x) (h2 : x ≤ 1199) : Gam (nu_up m 193 (57 + k) x) := Gam_up hm (by
  rw [(gt_193_ac k h).1]
  exact (gc_0 rfl).mpr ⟨h1, h2⟩)
theorem gt_193 : ∀ i : Nat, i < 69 → (cT (tyO 193) i).1 = 0 ∧ -2147483648 ≤ (cT (tyO 193) i).2.1 ∧ (cT (tyO 193) i).2.2 ≤ 2147483647 := by decide +kernel
theorem gb_193 (hm : Gam m) {i : Nat} (h : i < 69) : -2147483648 ≤ m 193 i ∧ m 193 i ≤ 2147483647 := by
  obtain ⟨h1, h2, h3⟩ := gt_193 i h
  have h4 := (gc_0 h1).mp (hm 193 (by decide) (by decide) i h)
  omega
theorem gb_198_0 (hm : Gam m) : 0 ≤ m 198 0 ∧ m 198 0 ≤ 7 := (gc_0 rfl).mp (hm 198 (by decide) (by decide) 0 (by decide))
theorem gu_198_0 (hm : Gam m) (h1 : 0 ≤ x) (h2 : x ≤ 7) : Gam (nu_up m 198 0 x) := Gam_up hm ((gc_0 rfl).mpr ⟨h1, h2⟩)
theorem gb_198_1 (hm : Gam m) : 0 ≤ m 198 1 ∧ m 198 1 ≤ 12 := (gc_0 rfl).mp (hm 198 (by decide) (by decide) 1 (by decide))
theorem gu_198_1 (hm : Gam m) (h1 : 0 ≤ x) (h2 : x ≤ 12) : Gam (nu_up m 198 1 x) := Gam_up hm ((gc_0 rfl).mpr ⟨h1, h2⟩)
theorem gb_198_2 (hm : Gam m) : 0 ≤ m 198 2 ∧ m 198 2 ≤ 20 := (gc_0 rfl).mp (hm 198 (by decide) (by decide) 2 (by decide))
theorem gu_198_2 (hm : Gam m) (h1 : 0 ≤ x) (h2 : x ≤ 20) : Gam (nu_up m 198 2 x) := Gam_up hm ((gc_0 rfl).mpr ⟨h1, h2⟩)
theorem gb_198_3 (hm : Gam m) : 0 ≤ m 198 3 ∧ m 198 3 ≤ 10 := (gc_0 rfl).mp (hm 198 (by decide) (by decide) 3 (by decide))
theorem gu_198_3 (hm : Gam m) (h1 : 0 ≤ x) (h2 : x ≤ 10) : Gam (nu_up m 198 3 x) := Gam_up hm ((gc_0 rfl).mpr ⟨h1, h2⟩)
theorem gb_198_4 (hm : Gam m) : 0 ≤ m 198 4 ∧ m 198 4 ≤ 10 := (gc_0 rfl).mp (hm 198 (by decide) (by decide) 4 (by decide))
theorem gu_198_4 (hm : Gam m) (h1 : 0 ≤ x) (h2 : x ≤ 10) : Gam (nu_up m 198 4 x) := Gam_up hm ((gc_0 rfl).mpr ⟨h1, h2⟩)
theorem gb_198_5 (hm : Gam m) : 0 ≤ m 198 5 ∧ m 198 5 ≤ 5 := (gc_0 rfl).mp (hm 198 (by decide) (by decide) 5 (by decide))
theorem gu_198_5 (hm : Gam m) (h1 : 0 ≤ x) (h2 : x ≤ 5) : Gam (nu_up m 198 5 x) := Gam_up hm ((gc_0 rfl).mpr ⟨h1, h2⟩)
theorem gb_198_6 (hm : Gam m) : 0 ≤ m 198 6 ∧ m 198 6 ≤ 3 := (gc_0 rfl).mp (hm 198 (by decide) (by decide) 6 (by decide))
theorem gu_198_6 (hm : Gam m) (h1 : 0 ≤ x) (h2 : x ≤ 3) : Gam (nu_up m 198 6 x) := Gam_up hm ((gc_0 rfl).mpr ⟨h1, h2⟩)
theorem gb_198_7 (hm : Gam m) : 0 ≤ m 198 7 ∧ m 198 7 ≤ 5 := (gc_0 rfl).mp (hm 198 (by decide) (by decide) 7 (by decide))
theorem gu_198_7 (hm : Gam m) (h1 : 0 ≤ x) (h2 : x ≤ 5) : Gam (nu_up m 198 7 x) := Gam_up hm ((gc_0 rfl).mpr ⟨h1, h2⟩)
theorem gb_198_8 (hm : Gam m) : 0 ≤ m 198 8 ∧ m 198 8 ≤ 12 := (gc_0 rfl).mp (hm 198 (by decide) (by decide) 8 (by decide))
theorem gu_198_8 (hm : Gam m) (h1 : 0 ≤ x) (h2 : x ≤ 12) : Gam (nu_up m 198 8 x) := Gam_up hm ((gc_0 rfl).mpr ⟨h1, h2⟩)
theorem gb_198_9 (hm : Gam m) : 0 ≤ m 198 9 ∧ m 198 9 ≤ 2147483647 := (gc_0 rfl).mp (hm 198 (by decide) (by decide) 9 (by decide))
theorem gu_198_9 (hm : Gam m) (h1 : 0 ≤ x) (h2 : x ≤ 2147483647) : Gam (nu_up m 198 9 x) := Gam_up hm ((gc_0 rfl).mpr ⟨h1, h2⟩)
theorem gb_198_10 (hm : Gam m) : (-2147483648) ≤ m 198 10 ∧ m 198 10 ≤ 2147483647 := (gc_0 rfl).mp (hm 198 (by decide) (by decide) 10 (by decide))
theorem gu_198_10 (hm : Gam m) (h1 : (-2147483648) ≤ x) (h2 : x ≤ 2147483647) : Gam (nu_up m 198 10 x) := Gam_up hm ((gc_0 rfl).mpr ⟨h1, h2⟩)
theorem gt_198_pa : ∀ k : Nat, k < 20 → cT (tyO 198) (11 + k) = (0, 0, 6) ∧ 11 + k < 69 := by decide +kernel
theorem gb_198_pa (hm : Gam m) {k : Nat} (h : k < 20) : 0 ≤ m 198 (11 + k) ∧ m 198 (11 + k) ≤ 6 := by
  obtain ⟨h1, h2⟩ := gt_198_pa k h
  have h3 := hm 198 (by decide) (by decide) _ h2
  rw [h1] at h3
  exact (gc_0 rfl).mp h3
theorem gu_198_pa (hm : Gam m) {k : Nat} (h : k < 20) (h1 : 0 ≤ x) (h2 : x ≤ 6) : Gam (nu_up m 198 (11 + k) x) := Gam_up hm (by
  rw [(gt_198_pa k h).1]
  exact (gc_0 rfl).mpr ⟨h1, h2⟩)
theorem gt_198_tp : ∀ k : Nat, k < 5 → cT (tyO 198) (31 + 2 * k) = (0, 0, 6) ∧ 31 + 2 * k < 69 := by decide +kernel
theorem gb_198_tp (hm : Gam m) {k : Nat} (h : k < 5) : 0 ≤ m 198 (31 + 2 * k) ∧ m 198 (31 + 2 * k) ≤ 6 := by
  obtain ⟨h1, h2⟩ := gt_198_tp k h
  have h3 := hm 198 (by decide) (by decide) _ h2
  rw [h1] at h3
  exact (gc_0 rfl).mp h3
theorem gu_198_tp (hm : Gam m) {k : Nat} (h : k < 5) (h1 : 0 ≤ x) (h2 : x ≤ 6) : Gam (nu_up m 198 (31 + 2 * k) x) := Gam_up hm (by
  rw [(gt_198_tp k h).1]
  exact (gc_0 rfl).mpr ⟨h1, h2⟩)
theorem gt_198_tf : ∀ k : Nat, k < 5 → cT (tyO 198) (32 + 2 * k) = (0, 0, 9) ∧ 32 + 2 * k < 69 := by decide +kernel
theorem gb_198_tf (hm : Gam m) {k : Nat} (h : k < 5) : 0 ≤ m 198 (32 + 2 * k) ∧ m 198 (32 + 2 * k) ≤ 9 := by
  obtain ⟨h1, h2⟩ := gt_198_tf k h
  have h3 := hm 198 (by decide) (by decide) _ h2
  rw [h1] at h3
  exact (gc_0 rfl).mp h3
theorem gu_198_tf (hm : Gam m) {k : Nat} (h : k < 5) (h1 : 0 ≤ x) (h2 : x ≤ 9) : Gam (nu_up m 198 (32 + 2 * k) x) := Gam_up hm (by
  rw [(gt_198_tf k h).1]
  exact (gc_0 rfl).mpr ⟨h1, h2⟩)
theorem gt_198_vp : ∀ k : Nat, k < 3 → cT (tyO 198) (41 + 2 * k) = (0, 0, 6) ∧ 41 + 2 * k < 69 := by decide +kernel
theorem gb_198_vp (hm : Gam m) {k : Nat} (h : k < 3) : 0 ≤ m 198 (41 + 2 * k) ∧ m 198 (41 + 2 * k) ≤ 6 := by
  obtain ⟨h1, h2⟩ := gt_198_vp k h
  have h3 := hm 198 (by decide) (by decide) _ h2
  rw [h1] at h3
  exact (gc_0 rfl).mp h3
theorem gu_198_vp (hm : Gam m) {k : Nat} (h : k < 3) (h1 : 0 ≤ x) (h2 : x ≤ 6) : Gam (nu_up m 198 (41 + 2 * k) x) := Gam_up hm (by
  rw [(gt_198_vp k h).1]
  exact (gc_0 rfl).mpr ⟨h1, h2⟩)
theorem gt_198_vr : ∀ k : Nat, k < 3 → cT (tyO 198) (42 + 2 * k) = (0, 0, 12) ∧ 42 + 2 * k < 69 := by decide +kernel
theorem gb_198_vr (hm : Gam m) {k : Nat} (h : k < 3) : 0 ≤ m 198 (42 + 2 * k) ∧ m 198 (42 + 2 * k) ≤ 12 := by
  obtain ⟨h1, h2⟩ := gt_198_vr k h
  have h3 := hm 198 (by decide) (by decide) _ h2
  rw [h1] at h3
  exact (gc_0 rfl).mp h3
theorem gu_198_vr (hm : Gam m) {k : Nat} (h : k < 3) (h1 : 0 ≤ x) (h2 : x ≤ 12) : Gam (nu_up m 198 (42 + 2 * k) x) := Gam_up hm (by
  rw [(gt_198_vr k h).1]
  exact (gc_0 rfl).mpr ⟨h1, h2⟩)
theorem gt_198_bp : ∀ k : Nat, k < 5 → cT (tyO 198) (47 + 2 * k) = (0, 0, 6) ∧ 47 + 2 * k < 69 := by decide +kernel
theorem gb_198_bp (hm : Gam m) {k : Nat} (h : k < 5) : 0 ≤ m 198 (47 + 2 * k) ∧ m 198 (47 + 2 * k) ≤ 6 := by
  obtain ⟨h1, h2⟩ := gt_198_bp k h
  have h3 := hm 198 (by decide) (by decide) _ h2
  rw [h1] at h3
  exact (gc_0 rfl).mp h3
theorem gu_198_bp (hm : Gam m) {k : Nat} (h : k < 5) (h1 : 0 ≤ x) (h2 : x ≤ 6) : Gam (nu_up m 198 (47 + 2 * k) x) := Gam_up hm (by
  rw [(gt_198_bp k h).1]
  exact (gc_0 rfl).mpr ⟨h1, h2⟩)
theorem gt_198_bs : ∀ k : Nat, k < 5 → cT (tyO 198) (48 + 2 * k) = (0, 0, 99) ∧ 48 + 2 * k < 69 := by decide +kernel
theorem gb_198_bs (hm : Gam m) {k : Nat} (h : k < 5) : 0 ≤ m 198 (48 + 2 * k) ∧ m 198 (48 + 2 * k) ≤ 99 := by
  obtain ⟨h1, h2⟩ := gt_198_bs k h
  have h3 := hm 198 (by decide) (by decide) _ h2
  rw [h1] at h3
  exact (gc_0 rfl).mp h3
theorem gu_198_bs (hm : Gam m) {k : Nat} (h : k < 5) (h1 : 0 ≤ x) (h2 : x ≤ 99) : Gam (nu_up m 198 (48 + 2 * k) x) := Gam_up hm (by
  rw [(gt_198_bs k h).1]
  exact (gc_0 rfl).mpr ⟨h1, h2⟩)
theorem gt_198_ac : ∀ k : Nat, k < 12 → cT (tyO 198) (57 + k) = (0, 0, 1199) ∧ 57 + k < 69 := by decide +kernel
theorem gb_198_ac (hm : Gam m) {k : Nat} (h : k < 12) : 0 ≤ m 198 (57 + k) ∧ m 198 (57 + k) ≤ 1199 := by
  obtain ⟨h1, h2⟩ := gt_198_ac k h
  have h3 := hm 198 (by decide) (by decide) _ h2
  rw [h1] at h3
  exact (gc_0 rfl).mp h3
theorem gu_198_ac (hm : Gam m) {k : Nat} (h : k < 12) (h1 : 0 ≤ x) (h2 : x ≤ 1199) : Gam (nu_up m 198 (57 + k) x) := Gam_up hm (by
  rw [(gt_198_ac k h).1]
  exact (gc_0 rfl).mpr ⟨h1, h2⟩)
theorem gt_198 : ∀ i : Nat, i < 69 → (cT (tyO 198) i).1 = 0 ∧ -2147483648 ≤ (cT (tyO 198) i).2.1 ∧ (cT (tyO 198) i).2.2 ≤ 2147483647 := by decide +kernel
theorem gb_198 (hm : Gam m) {i : Nat} (h : i < 69) : -2147483648 ≤ m 198 i ∧ m 198 i ≤ 2147483647 := by
  obtain ⟨h1, h2, h3⟩ := gt_198 i h
  have h4 := (gc_0 h1).mp (hm 198 (by decide) (by decide) i h)
  omega
theorem gt_200_at : ∀ h : Nat, h < 13 → cT (tyO 200) (16 * h) = (0, (-1), 6) ∧ 16 * h < 208 := by decide
theorem gb_200_at (hm : Gam m) {h : Nat} (hh : h < 13) : (-1) ≤ m 200 (16 * h) ∧ m 200 (16 * h) ≤ 6 := by
  obtain ⟨h1, h2⟩ := gt_200_at h hh
  have h3 := hm 200 (by decide) (by decide) _ h2
  rw [h1] at h3
  exact (gc_0 rfl).mp h3
theorem gu_200_at (hm : Gam m) {h : Nat} (hh : h < 13) (h1 : (-1) ≤ x) (h2 : x ≤ 6) : Gam (nu_up m 200 (16 * h) x) := Gam_up hm (by
  rw [(gt_200_at h hh).1]
  exact (gc_0 rfl).mpr ⟨h1, h2⟩)
theorem gt_200_on : ∀ h : Nat, h < 13 → cT (tyO 200) (16 * h + 1) = (0, (-1), 4) ∧ 16 * h + 1 < 208 := by decide
theorem gb_200_on (hm : Gam m) {h : Nat} (hh : h < 13) : (-1) ≤ m 200 (16 * h + 1) ∧ m 200 (16 * h + 1) ≤ 4 := by
  obtain ⟨h1, h2⟩ := gt_200_on h hh
  have h3 := hm 200 (by decide) (by decide) _ h2
  rw [h1] at h3
  exact (gc_0 rfl).mp h3
theorem gu_200_on (hm : Gam m) {h : Nat} (hh : h < 13) (h1 : (-1) ≤ x) (h2 : x ≤ 4) : Gam (nu_up m 200 (16 * h + 1) x) := Gam_up hm (by
  rw [(gt_200_on h hh).1]
  exact (gc_0 rfl).mpr ⟨h1, h2⟩)
theorem gt_200_dr : ∀ h : Nat, h < 13 → cT (tyO 200) (16 * h + 3) = (0, 0, 3) ∧ 16 * h + 3 < 208 := by decide
theorem gb_200_dr (hm : Gam m) {h : Nat} (hh : h < 13) : 0 ≤ m 200 (16 * h + 3) ∧ m 200 (16 * h + 3) ≤ 3 := by
  obtain ⟨h1, h2⟩ := gt_200_dr h hh
  have h3 := hm 200 (by decide) (by decide) _ h2
  rw [h1] at h3
  exact (gc_0 rfl).mp h3
theorem gu_200_dr (hm : Gam m) {h : Nat} (hh : h < 13) (h1 : 0 ≤ x) (h2 : x ≤ 3) : Gam (nu_up m 200 (16 * h + 3) x) := Gam_up hm (by
  rw [(gt_200_dr h hh).1]
  exact (gc_0 rfl).mpr ⟨h1, h2⟩)
theorem gt_200 : ∀ i : Nat, i < 208 → (cT (tyO 200) i).1 = 0 ∧ -2147483648 ≤ (cT (tyO 200) i).2.1 ∧ (cT (tyO 200) i).2.2 ≤ 2147483647 := by decide +kernel
theorem gb_200 (hm : Gam m) {i : Nat} (h : i < 208) : -2147483648 ≤ m 200 i ∧ m 200 i ≤ 2147483647 := by
  obtain ⟨h1, h2, h3⟩ := gt_200 i h
  have h4 := (gc_0 h1).mp (hm 200 (by decide) (by decide) i h)
  omega
theorem gt_200_x : ∀ i : Nat, i < 208 → (i % 16 = 0 ∨ i % 16 = 1 ∨ i % 16 = 3 ∨ cT (tyO 200) i = (0, (-2147483648), 2147483647)) := by decide +kernel
theorem gu_200_x (hm : Gam m) {i : Nat} (h : i < 208) (h0 : i % 16 ≠ 0) (h1 : i % 16 ≠ 1) (h3 : i % 16 ≠ 3) (h4 : -2147483648 ≤ x) (h5 : x ≤ 2147483647) : Gam (nu_up m 200 i x) := Gam_up hm (by
  have h6 : cT (tyO 200) i = (0, (-2147483648), 2147483647) := by
    rcases gt_200_x i h with z | z | z | z
    · exact absurd z h0
    · exact absurd z h1
    · exact absurd z h3
    · exact z
  rw [h6]
  exact (gc_0 rfl).mpr ⟨h4, h5⟩)
end OB
