/-! all contracts at once -/
def cersL : List (Nat × Cer) := cers_0 ++ (cers_1 ++ (cers_2 ++ (cers_3 ++ (cers_4 ++ (cers_5 ++ (cers_6 ++ (cers_7 ++ (cers_8 ++ (cers_9 ++ (cers_10 ++ (cers_11 ++ (cers_12 ++ (cers_13 ++ (cers_14 ++ (cers_15)))))))))))))))
/-- the contracts that are proved by hand -/
def manL : List Nat := [6, 13, 16, 19, 22, 26, 29, 41, 48, 56, 165, 447, 448, 455, 529, 530, 531, 537, 538, 541, 550, 557, 561, 568, 578, 603, 606, 617, 618, 619, 620, 628, 633, 638, 639, 640, 641, 643, 660, 677, 678, 679, 680, 689, 704, 743, 744, 791]
set_option maxRecDepth 100000 in
set_option maxHeartbeats 0 in
theorem cers_all : (List.range 792).all (fun k => manL.contains k || (cersL.map (fun e => e.1)).contains k) = true := by decide +kernel
set_option maxRecDepth 100000 in
set_option maxHeartbeats 0 in
theorem conL_len : conL.length = 792 := by decide +kernel
theorem cers_ok : ∀ e ∈ cersL, okC conL e.1 e.2 = true := by
  intro e he
  unfold cersL at he
  simp only [List.mem_append] at he
  rcases he with he | he | he | he | he | he | he | he | he | he | he | he | he | he | he | he
  · exact List.all_eq_true.mp ckc_0 e he
  · exact List.all_eq_true.mp ckc_1 e he
  · exact List.all_eq_true.mp ckc_2 e he
  · exact List.all_eq_true.mp ckc_3 e he
  · exact List.all_eq_true.mp ckc_4 e he
  · exact List.all_eq_true.mp ckc_5 e he
  · exact List.all_eq_true.mp ckc_6 e he
  · exact List.all_eq_true.mp ckc_7 e he
  · exact List.all_eq_true.mp ckc_8 e he
  · exact List.all_eq_true.mp ckc_9 e he
  · exact List.all_eq_true.mp ckc_10 e he
  · exact List.all_eq_true.mp ckc_11 e he
  · exact List.all_eq_true.mp ckc_12 e he
  · exact List.all_eq_true.mp ckc_13 e he
  · exact List.all_eq_true.mp ckc_14 e he
  · exact List.all_eq_true.mp ckc_15 e he
theorem con_all {T : List Kd} (hT : ∀ o, 0 < o → o < 213 → T[o]? = some (tyK (tyO o))) (hman : ∀ k, k ∈ manL → (∀ k', k' < k → ConOK conL T k') → ConOK conL T k) : ∀ k, ConOK conL T k := by
  intro k
  induction k using Nat.strongRecOn with
  | _ k ih =>
    by_cases hk : k < 792
    · have h := List.all_eq_true.mp cers_all k (List.mem_range.mpr hk)
      rw [Bool.or_eq_true] at h
      rcases h with h | h
      · exact hman k (List.contains_iff_mem.mp h) ih
      · obtain ⟨e, he, hk2⟩ := List.mem_map.mp (List.contains_iff_mem.mp h)
        have := okC_ok (C := conL) (T := T) hT (cers_ok e he) (by rw [hk2]; exact ih)
        rw [hk2] at this
        exact this
    · intro c hc
      have := (List.getElem?_eq_some_iff.mp hc).1
      rw [conL_len] at this
      omega
