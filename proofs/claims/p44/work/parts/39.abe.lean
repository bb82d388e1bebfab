/-! all contracts at once -/
set_option maxRecDepth 100000 in
set_option maxHeartbeats 0 in
theorem conL_len : conL.length = 1034 := by decide +kernel
theorem con_all {T : List Kd} (hT : ∀ o, 0 < o → o < 213 → T[o]? = some (tyK (tyO o))) (hman : ∀ k, k ∈ manL → (∀ k', k' < k → AllK conL T k') → AllK conL T k) : ∀ k, AllK conL T k := by
  have g0 : ∀ i, i < 0 → AllK conL T i := fun i hi => absurd hi (by omega)
  have g1 : ∀ i, i < 50 → AllK conL T i := okG_ok hT hman grp_0 0 ckg_0 g0
  have g2 : ∀ i, i < 100 → AllK conL T i := okG_ok hT hman grp_1 50 ckg_1 g1
  have g3 : ∀ i, i < 150 → AllK conL T i := okG_ok hT hman grp_2 100 ckg_2 g2
  have g4 : ∀ i, i < 200 → AllK conL T i := okG_ok hT hman grp_3 150 ckg_3 g3
  have g5 : ∀ i, i < 250 → AllK conL T i := okG_ok hT hman grp_4 200 ckg_4 g4
  have g6 : ∀ i, i < 300 → AllK conL T i := okG_ok hT hman grp_5 250 ckg_5 g5
  have g7 : ∀ i, i < 350 → AllK conL T i := okG_ok hT hman grp_6 300 ckg_6 g6
  have g8 : ∀ i, i < 400 → AllK conL T i := okG_ok hT hman grp_7 350 ckg_7 g7
  have g9 : ∀ i, i < 450 → AllK conL T i := okG_ok hT hman grp_8 400 ckg_8 g8
  have g10 : ∀ i, i < 500 → AllK conL T i := okG_ok hT hman grp_9 450 ckg_9 g9
  have g11 : ∀ i, i < 550 → AllK conL T i := okG_ok hT hman grp_10 500 ckg_10 g10
  have g12 : ∀ i, i < 600 → AllK conL T i := okG_ok hT hman grp_11 550 ckg_11 g11
  have g13 : ∀ i, i < 650 → AllK conL T i := okG_ok hT hman grp_12 600 ckg_12 g12
  have g14 : ∀ i, i < 700 → AllK conL T i := okG_ok hT hman grp_13 650 ckg_13 g13
  have g15 : ∀ i, i < 750 → AllK conL T i := okG_ok hT hman grp_14 700 ckg_14 g14
  have g16 : ∀ i, i < 800 → AllK conL T i := okG_ok hT hman grp_15 750 ckg_15 g15
  have g17 : ∀ i, i < 850 → AllK conL T i := okG_ok hT hman grp_16 800 ckg_16 g16
  have g18 : ∀ i, i < 900 → AllK conL T i := okG_ok hT hman grp_17 850 ckg_17 g17
  have g19 : ∀ i, i < 950 → AllK conL T i := okG_ok hT hman grp_18 900 ckg_18 g18
  have g20 : ∀ i, i < 1000 → AllK conL T i := okG_ok hT hman grp_19 950 ckg_19 g19
  have g21 : ∀ i, i < 1034 → AllK conL T i := okG_ok hT hman grp_20 1000 ckg_20 g20
  intro k
  by_cases hk : k < 1034
  · exact g21 k hk
  · exact ⟨fun _ c hc => by
      have := (List.getElem?_eq_some_iff.mp hc).1
      rw [conL_len] at this
      omega, fun _ c hc => by
      have := (List.getElem?_eq_some_iff.mp hc).1
      rw [conL_len] at this
      omega⟩
