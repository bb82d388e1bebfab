/-! drops, needs -/
theorem r_36_0 : row 36 0 = some (.iload_n 1, 1, 0, 0, 0, 0) := rfl
theorem r_36_1 : row 36 1 = some (.aload_n 0, 2, 0, 0, 0, 0) := rfl
theorem r_36_2 : row 36 2 = some (.getfield 19, 5, 9, 1, 2, 2159) := rfl
theorem r_36_5 : row 36 5 = some (.getfield 152, 8, 3, 8, 10, 1101) := rfl
theorem r_36_8 : row 36 8 = some (.invokestatic 126, 11, 71, 2, 0, 4020) := rfl
theorem r_36_11 : row 36 11 = some (.ifCond .ne 6, 14, 17, 0, 0, 0) := rfl
theorem r_36_14 : row 36 14 = some (.bipush (-2), 16, (-2), 0, 0, 0) := rfl
theorem r_36_16 : row 36 16 = some (.ireturn, 17, 0, 0, 0, 0) := rfl
theorem r_36_17 : row 36 17 = some (.aload_n 0, 18, 0, 0, 0, 0) := rfl
theorem r_36_18 : row 36 18 = some (.getfield 23, 21, 9, 2, 2, 2160) := rfl
theorem r_36_21 : row 36 21 = some (.aload_n 0, 22, 0, 0, 0, 0) := rfl
theorem r_36_22 : row 36 22 = some (.getfield 19, 25, 9, 1, 2, 2159) := rfl
theorem r_36_25 : row 36 25 = some (.invokevirtual 104, 28, 254, 1, 10, 3146) := rfl
theorem r_36_28 : row 36 28 = some (.iconst 1, 29, 1, 0, 0, 0) := rfl
theorem r_36_29 : row 36 29 = some (.istore_n 2, 30, 0, 0, 0, 0) := rfl
theorem r_36_30 : row 36 30 = some (.iload_n 2, 31, 0, 0, 0, 0) := rfl
theorem r_36_31 : row 36 31 = some (.bipush 99, 33, 99, 0, 0, 0) := rfl
theorem r_36_33 : row 36 33 = some (.if_icmp .gt 61, 36, 94, 0, 0, 0) := rfl
theorem r_36_36 : row 36 36 = some (.aload_n 0, 37, 0, 0, 0, 0) := rfl
theorem r_36_37 : row 36 37 = some (.getfield 23, 40, 9, 2, 2, 2160) := rfl
theorem r_36_40 : row 36 40 = some (.getfield 159, 43, 3, 15, 12, 1128) := rfl
theorem r_36_43 : row 36 43 = some (.iload_n 1, 44, 0, 0, 0, 0) := rfl
theorem r_36_44 : row 36 44 = some (.iload_n 2, 45, 0, 0, 0, 0) := rfl
theorem r_36_45 : row 36 45 = some (.invokestatic 251, 48, 238, 3, 10, 4190) := rfl
theorem r_36_48 : row 36 48 = some (.aload_n 0, 49, 0, 0, 0, 0) := rfl
theorem r_36_49 : row 36 49 = some (.getfield 43, 52, 9, 6, 2, 2164) := rfl
theorem r_36_52 : row 36 52 = some (.aload_n 0, 53, 0, 0, 0, 0) := rfl
theorem r_36_53 : row 36 53 = some (.getfield 23, 56, 9, 2, 2, 2160) := rfl
theorem r_36_56 : row 36 56 = some (.aload_n 0, 57, 0, 0, 0, 0) := rfl
theorem r_36_57 : row 36 57 = some (.getfield 29, 60, 9, 3, 2, 2161) := rfl
theorem r_36_60 : row 36 60 = some (.iconst 0, 61, 0, 0, 0, 0) := rfl
theorem r_36_61 : row 36 61 = some (.aload_n 0, 62, 0, 0, 0, 0) := rfl
theorem r_36_62 : row 36 62 = some (.getfield 23, 65, 9, 2, 2, 2160) := rfl
theorem r_36_65 : row 36 65 = some (.iconst 0, 66, 0, 0, 0, 0) := rfl
theorem r_36_66 : row 36 66 = some (.invokevirtual 155, 69, 258, 1, 10, 3166) := rfl
theorem r_36_69 : row 36 69 = some (.invokevirtual 255, 72, 288, 4, 10, 3170) := rfl
theorem r_36_72 : row 36 72 = some (.aload_n 0, 73, 0, 0, 0, 0) := rfl
theorem r_36_73 : row 36 73 = some (.getfield 43, 76, 9, 6, 2, 2164) := rfl
theorem r_36_76 : row 36 76 = some (.getfield 228, 79, 7, 13, 10, 2029) := rfl
theorem r_36_79 : row 36 79 = some (.iload_n 1, 80, 0, 0, 0, 0) := rfl
theorem r_36_80 : row 36 80 = some (.invokestatic 187, 83, 242, 2, 10, 4070) := rfl
theorem r_36_83 : row 36 83 = some (.ifCond .ne 5, 86, 88, 0, 0, 0) := rfl
theorem r_36_86 : row 36 86 = some (.iload_n 2, 87, 0, 0, 0, 0) := rfl
theorem r_36_87 : row 36 87 = some (.ireturn, 88, 0, 0, 0, 0) := rfl
theorem r_36_88 : row 36 88 = some (.iinc 2 1, 91, 0, 0, 0, 0) := rfl
theorem r_36_91 : row 36 91 = some (.goto (-61), 94, 30, 0, 0, 0) := rfl
theorem r_36_94 : row 36 94 = some (.iconst (-1), 95, (-1), 0, 0, 0) := rfl
theorem r_36_95 : row 36 95 = some (.ireturn, 96, 0, 0, 0, 0) := rfl
theorem r_37_0 : row 37 0 = some (.aload_n 0, 1, 0, 0, 0, 0) := rfl
theorem r_37_1 : row 37 1 = some (.getfield 19, 4, 9, 1, 2, 2159) := rfl
theorem r_37_4 : row 37 4 = some (.invokevirtual 162, 7, 252, 0, 10, 4036) := rfl
theorem r_37_7 : row 37 7 = some (.ifCond .ne 6, 10, 13, 0, 0, 0) := rfl
theorem r_37_10 : row 37 10 = some (.bipush (-2), 12, (-2), 0, 0, 0) := rfl
theorem r_37_12 : row 37 12 = some (.ireturn, 13, 0, 0, 0, 0) := rfl
theorem r_37_13 : row 37 13 = some (.aload_n 0, 14, 0, 0, 0, 0) := rfl
theorem r_37_14 : row 37 14 = some (.getfield 23, 17, 9, 2, 2, 2160) := rfl
theorem r_37_17 : row 37 17 = some (.aload_n 0, 18, 0, 0, 0, 0) := rfl
theorem r_37_18 : row 37 18 = some (.getfield 19, 21, 9, 1, 2, 2159) := rfl
theorem r_37_21 : row 37 21 = some (.invokevirtual 104, 24, 254, 1, 10, 3146) := rfl
theorem r_37_24 : row 37 24 = some (.iconst 1, 25, 1, 0, 0, 0) := rfl
theorem r_37_25 : row 37 25 = some (.istore_n 1, 26, 0, 0, 0, 0) := rfl
theorem r_37_26 : row 37 26 = some (.iload_n 1, 27, 0, 0, 0, 0) := rfl
theorem r_37_27 : row 37 27 = some (.bipush 20, 29, 20, 0, 0, 0) := rfl
theorem r_37_29 : row 37 29 = some (.if_icmp .gt 53, 32, 82, 0, 0, 0) := rfl
theorem r_37_32 : row 37 32 = some (.aload_n 0, 33, 0, 0, 0, 0) := rfl
theorem r_37_33 : row 37 33 = some (.getfield 23, 36, 9, 2, 2, 2160) := rfl
theorem r_37_36 : row 37 36 = some (.iload_n 1, 37, 0, 0, 0, 0) := rfl
theorem r_37_37 : row 37 37 = some (.putfield 259, 40, 3, 3, 10, 1083) := rfl
theorem r_37_40 : row 37 40 = some (.aload_n 0, 41, 0, 0, 0, 0) := rfl
theorem r_37_41 : row 37 41 = some (.getfield 43, 44, 9, 6, 2, 2164) := rfl
theorem r_37_44 : row 37 44 = some (.aload_n 0, 45, 0, 0, 0, 0) := rfl
theorem r_37_45 : row 37 45 = some (.getfield 23, 48, 9, 2, 2, 2160) := rfl
theorem r_37_48 : row 37 48 = some (.aload_n 0, 49, 0, 0, 0, 0) := rfl
theorem r_37_49 : row 37 49 = some (.getfield 33, 52, 9, 4, 2, 2162) := rfl
theorem r_37_52 : row 37 52 = some (.iconst 0, 53, 0, 0, 0, 0) := rfl
theorem r_37_53 : row 37 53 = some (.aload_n 0, 54, 0, 0, 0, 0) := rfl
theorem r_37_54 : row 37 54 = some (.getfield 23, 57, 9, 2, 2, 2160) := rfl
theorem r_37_57 : row 37 57 = some (.iconst 0, 58, 0, 0, 0, 0) := rfl
theorem r_37_58 : row 37 58 = some (.invokevirtual 155, 61, 258, 1, 10, 3166) := rfl
theorem r_37_61 : row 37 61 = some (.invokevirtual 255, 64, 288, 4, 10, 3170) := rfl
theorem r_37_64 : row 37 64 = some (.aload_n 0, 65, 0, 0, 0, 0) := rfl
theorem r_37_65 : row 37 65 = some (.getfield 43, 68, 9, 6, 2, 2164) := rfl
theorem r_37_68 : row 37 68 = some (.getfield 219, 71, 7, 12, 10, 2027) := rfl
theorem r_37_71 : row 37 71 = some (.ifCond .ne 5, 74, 76, 0, 0, 0) := rfl
theorem r_37_74 : row 37 74 = some (.iload_n 1, 75, 0, 0, 0, 0) := rfl
theorem r_37_75 : row 37 75 = some (.ireturn, 76, 0, 0, 0, 0) := rfl
theorem r_37_76 : row 37 76 = some (.iinc 1 1, 79, 0, 0, 0, 0) := rfl
theorem r_37_79 : row 37 79 = some (.goto (-53), 82, 26, 0, 0, 0) := rfl
theorem r_37_82 : row 37 82 = some (.iconst (-1), 83, (-1), 0, 0, 0) := rfl
theorem r_37_83 : row 37 83 = some (.ireturn, 84, 0, 0, 0, 0) := rfl
theorem upw_upw {w : Wd} {i : Nat} {x y : Int} : upw (upw w i x) i y = upw w i y := funext fun j => by
  by_cases e : j = i
  · rw [e, upw_at, upw_at]
  · rw [upw_ne e, upw_ne e, upw_ne e]
/-- a cell that tells no place, no path, no count -/
def FreeC (i : Nat) : Prop := i = 2 ∨ (48 ≤ i ∧ i < 57)
theorem wyd_u {w : Wd} {D : Nat → Nat → Int} {i : Nat} {x : Int} (hi : FreeC i) (h : WyD w D) : WyD (upw w i x) D := by
  unfold FreeC at hi
  have e : adjW (upw w i x) = adjW w := funext fun a => funext fun b => propext (adj_eq (fun j hj => upw_ne (by omega)) a b)
  unfold WyD at h ⊢
  rw [e, upw_ne (by omega)]; exact h
theorem wb_u {w : Wd} {i : Nat} {x : Int} (hi : FreeC i) (h : WB w) : WB (upw w i x) := by
  unfold FreeC at hi
  exact WB_eq h (fun j hj => upw_ne (by omega))
theorem isw_u {m m1 : Mm} {o : Nat} {w : Wd} {i : Nat} {x : Int} (hi : FreeC i) (h : IsWy m o w) (e : ∀ k : Nat, m1 (o + 8) k = m (o + 8) k) : IsWy m1 o (upw w i x) := by
  unfold FreeC at hi
  intro d hd a b ha hb
  have e2 : adjW (upw w i x) = adjW w := funext fun a => funext fun b => propext (adj_eq (fun j hj => upw_ne (by omega)) a b)
  rw [e2, upw_ne (by omega)] at hd
  rw [upw_ne (by omega)] at ha hb
  rw [e]; exact h d hd a b ha hb
theorem wd_2 {m : Mm} {o : Nat} {w : Wd} (h : WD m o w) (k : Int) : WD (nu_up m o 3 k) o (upw w 2 k) := by
  obtain ⟨⟨a0, a1, a2, a3, a4, a5, a6, a7, a8, a9, b1, b2, b3, b4⟩, hB, hy, hP⟩ := h
  have e : ∀ i : Nat, ¬ i = 2 → upw w 2 k i = w i := fun i hi => upw_ne hi
  refine ⟨⟨(nu_ne (by decide)).trans (a0.trans (e 9 (by decide)).symm), (nu_ne (by decide)).trans (a1.trans (e 0 (by decide)).symm), (nu_ne (by decide)).trans (a2.trans (e 1 (by decide)).symm), nu_at.trans upw_at.symm, (nu_ne (by decide)).trans (a4.trans (e 3 (by decide)).symm), (nu_ne (by decide)).trans (a5.trans (e 4 (by decide)).symm), (nu_ne (by decide)).trans (a6.trans (e 5 (by decide)).symm), (nu_ne (by decide)).trans (a7.trans (e 6 (by decide)).symm), (nu_ne (by decide)).trans (a8.trans (e 7 (by decide)).symm), (nu_ne (by decide)).trans (a9.trans (e 10 (by decide)).symm), fun t t1 t2 => ?_, fun t t1 t2 => ?_, fun t t1 t2 => ?_, BS_eq b4 (fun p _ => nu_no (by omega)) (fun i hi => e i (by omega))⟩, wb_u (Or.inl rfl) hB, isw_u (Or.inl rfl) hy (fun k => nu_no (by omega)), WP_eq hP (fun i hi => e i (by omega))⟩
  · rw [e 5 (by decide)] at t2
    rw [e (31 + 2 * t) (by omega), e (32 + 2 * t) (by omega), nu_no (by omega), nu_no (by omega)]; exact b1 t t1 t2
  · rw [e 6 (by decide)] at t2
    rw [e (41 + 2 * t) (by omega), e (42 + 2 * t) (by omega), nu_no (by omega), nu_no (by omega)]; exact b2 t t1 t2
  · rw [e 7 (by decide)] at t2
    rw [e (47 + 2 * t) (by omega), e (48 + 2 * t) (by omega), nu_no (by omega), nu_no (by omega)]; exact b3 t t1 t2
theorem upw_id {w : Wd} {i : Nat} : upw w i (w i) = w := funext fun j => by
  by_cases e : j = i
  · rw [e, upw_at]
  · rw [upw_ne e]
theorem wp_s {w : Wd} {b : Nat} {k : Int} (hP : WP w) (hb : b < 5) (hk : 1 ≤ k ∧ k ≤ 99) : WP (upw w (48 + 2 * b) k) := by
  have e : ∀ i : Nat, ¬ i = 48 + 2 * b → upw w (48 + 2 * b) k i = w i := fun i hi => upw_ne hi
  refine ⟨fun t t1 t2 => ?_, fun t t1 t2 => ?_, fun t t1 t2 => ?_⟩
  · rw [e 5 (by omega)] at t2
    rw [e (31 + 2 * t) (by omega), e 0 (by omega)]; exact hP.1 t t1 t2
  · rw [e 6 (by omega)] at t2
    rw [e (41 + 2 * t) (by omega), e 0 (by omega)]; exact hP.2.1 t t1 t2
  · have z := hP.2.2 t t1 (by rw [← e 7 (by omega)]; exact t2)
    rw [e (47 + 2 * t) (by omega), e 0 (by omega)]
    by_cases c : t = b
    · rw [c] at z ⊢; rw [upw_at]; exact ⟨z.1, z.2.1, hk.1, hk.2⟩
    · rw [e (48 + 2 * t) (by omega)]; exact z
theorem wd_s {m : Mm} {o b : Nat} {w : Wd} (h : WD m o w) (hb : b < 5) {k : Int} (hk : 1 ≤ k ∧ k ≤ 99) : WD (nu_up m (o + 6) b k) o (upw w (48 + 2 * b) k) := by
  obtain ⟨⟨a0, a1, a2, a3, a4, a5, a6, a7, a8, a9, b1, b2, b3, b4⟩, hB, hy, hP⟩ := h
  have e : ∀ i : Nat, ¬ i = 48 + 2 * b → upw w (48 + 2 * b) k i = w i := fun i hi => upw_ne hi
  have fc : FreeC (48 + 2 * b) := Or.inr ⟨by omega, by omega⟩
  refine ⟨⟨(nu_no (by omega)).trans (a0.trans (e 9 (by omega)).symm), (nu_no (by omega)).trans (a1.trans (e 0 (by omega)).symm), (nu_no (by omega)).trans (a2.trans (e 1 (by omega)).symm), (nu_no (by omega)).trans (a3.trans (e 2 (by omega)).symm), (nu_no (by omega)).trans (a4.trans (e 3 (by omega)).symm), (nu_no (by omega)).trans (a5.trans (e 4 (by omega)).symm), (nu_no (by omega)).trans (a6.trans (e 5 (by omega)).symm), (nu_no (by omega)).trans (a7.trans (e 6 (by omega)).symm), (nu_no (by omega)).trans (a8.trans (e 7 (by omega)).symm), (nu_no (by omega)).trans (a9.trans (e 10 (by omega)).symm), fun t t1 t2 => ?_, fun t t1 t2 => ?_, fun t t1 t2 => ?_, BS_eq b4 (fun p _ => nu_no (by omega)) (fun i hi => e i (by omega))⟩, wb_u fc hB, isw_u fc hy (fun k => nu_no (by omega)), wp_s hP hb hk⟩
  · rw [e 5 (by omega)] at t2
    rw [e (31 + 2 * t) (by omega), e (32 + 2 * t) (by omega), nu_no (by omega), nu_no (by omega)]; exact b1 t t1 t2
  · rw [e 6 (by omega)] at t2
    rw [e (41 + 2 * t) (by omega), e (42 + 2 * t) (by omega), nu_no (by omega), nu_no (by omega)]; exact b2 t t1 t2
  · rw [e 7 (by omega)] at t2
    rw [e (47 + 2 * t) (by omega), nu_no (by omega)]
    refine ⟨(b3 t t1 t2).1, ?_⟩
    by_cases c : t = b
    · rw [c, nu_at, upw_at]
    · rw [nu_ne c, e (48 + 2 * t) (by omega)]; exact (b3 t t1 t2).2
theorem wp_2 {w : Wd} {k : Int} (hP : WP w) : WP (upw w 2 k) := WP_eq hP (fun i hi => upw_ne (by omega))
theorem wbf_2 {w : Wd} {k : Int} (h : WBf w) (hk : 0 ≤ k ∧ k ≤ 20) : WBf (upw w 2 k) := by
  refine ⟨by rw [upw_at]; exact hk, fun t ht h5 => ?_⟩
  rw [upw_ne (by decide)] at h5
  rw [upw_ne (by omega)]; exact h.2 t ht h5
theorem wbf_s {w : Wd} {b : Nat} {k : Int} (h : WBf w) (hb : b < 5) : WBf (upw w (48 + 2 * b) k) := by
  refine ⟨by rw [upw_ne (by omega)]; exact h.1, fun t ht h5 => ?_⟩
  rw [upw_ne (by omega)] at h5
  rw [upw_ne (by omega)]; exact h.2 t ht h5
theorem ew_w {m m1 : Mm} {w : Wd} {k : Int} (h : EW (-1) m w) (hk : ¬ k = 0) (e1 : ∀ i : Nat, m1 193 i = m 193 i) (e2 : ∀ i : Nat, 23 ≤ i → i ≤ 28 → ¬ i = 26 → m1 192 i = m 192 i) (e3 : m1 192 26 = k) : EW (-1) m1 (upw w 2 k) := by
  obtain ⟨a1, a2, a3, a4, a5, a6, a7, a8, a9⟩ := h
  have e : ∀ i : Nat, ¬ i = 2 → upw w 2 k i = w i := fun i hi => upw_ne hi
  refine ⟨fun i x y z => by rw [e1, e i y]; exact a1 i x y z, by rw [e3, if_neg hk, upw_at], by rw [e1, e2 25 (by decide) (by decide) (by decide), e 10 (by decide)]; exact a3, fun t ht => by rw [e1, e _ (by omega)]; exact a4 t ht, by rw [e2 23 (by decide) (by decide) (by decide)]; exact a5, fun t ht z => by rw [e1, e _ (by omega)]; exact a6 t ht z, fun t ht z => by omega, fun v hv => ?_, fun b hb => ?_⟩
  · obtain ⟨x, y, z⟩ := a8 v hv
    rw [e2 24 (by decide) (by decide) (by decide), e1, e1, e _ (by omega), e _ (by omega)]
    exact ⟨x, y, z⟩
  · obtain ⟨x, y⟩ := a9 b hb
    rw [e2 27 (by decide) (by decide) (by decide), e2 28 (by decide) (by decide) (by decide), e1, e1, e _ (by omega), e _ (by omega)]
    exact ⟨x, y⟩
theorem ew_s {m m1 : Mm} {w : Wd} {k : Int} {b : Nat} (h : EW (-1) m w) (hb : b < 5) (h27 : m 192 27 = -1) (e1 : ∀ i : Nat, m1 193 i = m 193 i) (e2 : ∀ i : Nat, 23 ≤ i → i ≤ 26 → m1 192 i = m 192 i) (e3 : m1 192 27 = (b : Int)) (e4 : m1 192 28 = k) : EW (-1) m1 (upw w (48 + 2 * b) k) := by
  obtain ⟨a1, a2, a3, a4, a5, a6, a7, a8, a9⟩ := h
  have e : ∀ i : Nat, ¬ i = 48 + 2 * b → upw w (48 + 2 * b) k i = w i := fun i hi => upw_ne hi
  refine ⟨fun i x y z => by rw [e1, e i (by omega)]; exact a1 i x y z, by rw [e2 26 (by decide) (by decide), e1, e 2 (by omega)]; exact a2, by rw [e1, e2 25 (by decide) (by decide), e 10 (by omega)]; exact a3, fun t ht => by rw [e1, e _ (by omega)]; exact a4 t ht, by rw [e2 23 (by decide) (by decide)]; exact a5, fun t ht z => by rw [e1, e _ (by omega)]; exact a6 t ht z, fun t ht z => by omega, fun v hv => ?_, fun c hc => ?_⟩
  · obtain ⟨x, y, z⟩ := a8 v hv
    rw [e2 24 (by decide) (by decide), e1, e1, e _ (by omega), e _ (by omega)]
    exact ⟨x, y, z⟩
  · obtain ⟨x, y⟩ := a9 c hc
    rw [h27, if_neg (by omega)] at y
    rw [e1, e _ (by omega), e3, e4]
    refine ⟨x, ?_⟩
    by_cases q : c = b
    · rw [q, if_pos rfl, upw_at]
    · rw [if_neg (by omega), e1, e _ (by omega)]; exact y
/-- with this weight it ends by a fall -/
def dropP (w : Wd) (D : Nat → Nat → Int) (n : Nat) (k : Nat) : Prop := runF (upw w 2 (k : Int)) D (fun _ => 0) (beginF (upw w 2 (k : Int)) 0 (w 47)) n 16 = 0
/-- with this strength the bearer b doesn't fall -/
def needP (w : Wd) (D : Nat → Nat → Int) (A : Nat → Int) (n b : Nat) (k : Nat) : Prop := iand (ishr (runF (upw w (48 + 2 * b) (k : Int)) D A (beginF (upw w (48 + 2 * b) (k : Int)) 0 (w 47)) n 5) (b : Int)) 1 = 0
theorem pin_13 : ∀ i : Nat, i < 10 → pinF 13 i = 0 := by decide
theorem first_s {n k : Nat} {P : Nat → Prop} (h : ∀ j : Nat, j < k → ¬ (1 ≤ j ∧ P j)) (h2 : ¬ P k) : ∀ j : Nat, j < k + 1 → ¬ (1 ≤ j ∧ P j) := fun j hj z => by
  by_cases e : j = k
  · rw [e] at z; exact h2 z.2
  · exact h j (by omega) z
section DROPS
variable {T : List Kd} {m : Mm}
theorem pin_200 : ∀ o : Nat, 200 ≤ o → o ≤ 202 → ∀ i : Nat, pinF o i = 0 := by
  intro o h1 h2 i
  have h : ∀ q : Nat, q < 3 → pinT.getD (200 + q) [] = [] := by decide
  have z := h (o - 200) (by omega)
  rw [show 200 + (o - 200) = o by omega] at z
  unfold pinF
  rw [z]; rfl
set_option maxRecDepth 100000 in
theorem cu_254d : conL[373]? = some (254, [(2, 13, 0), (2, 4, 0)], (9, 0, 0), [13000, 13001, 13002, 13003, 13004, 13005, 13006, 13007, 13008, 13009, 14999, 15999, 16999, 17999, 18999, 19999, 20999, 21999], 1) := rfl
theorem pu_254d (hT : TT T) : ConH T (254, [(2, 13, 0), (2, 4, 0)], (9, 0, 0), [13000, 13001, 13002, 13003, 13004, 13005, 13006, 13007, 13008, 13009, 14999, 15999, 16999, 17999, 18999, 19999, 20999, 21999], 1) := fun args m => ((all_con hT 373).1 (by decide)) _ cu_254d args m
set_option maxRecDepth 100000 in
theorem cu_288n : conL[393]? = some (288, [(2, 41, 0), (2, 13, 0), (2, 25, 0), (0, (-2147483648), 2147483647), (0, (-2147483648), 2147483647)], (9, 0, 0), [41010, 41011, 41012, 41013, 42000, 42001, 42002, 42003, 42004, 42005, 42006, 42007, 43999, 44999, 45999, 46999, 47999, 48999, 49999, 50999, 51999, 52999, 53999], 4) := rfl
theorem pu_288n (hT : TT T) : ConH T (288, [(2, 41, 0), (2, 13, 0), (2, 25, 0), (0, (-2147483648), 2147483647), (0, (-2147483648), 2147483647)], (9, 0, 0), [41010, 41011, 41012, 41013, 42000, 42001, 42002, 42003, 42004, 42005, 42006, 42007, 43999, 44999, 45999, 46999, 47999, 48999, 49999, 50999, 51999, 52999, 53999], 4) := fun args m => ((all_con hT 393).1 (by decide)) _ cu_288n args m
set_option maxRecDepth 100000 in
theorem cu_288a : conL[391]? = some (288, [(2, 41, 0), (2, 13, 0), (2, 22, 0), (0, (-2147483648), 2147483647), (0, (-2147483648), 2147483647)], (9, 0, 0), [41010, 41011, 41012, 41013, 42000, 42001, 42002, 42003, 42004, 42005, 42006, 42007, 43999, 44999, 45999, 46999, 47999, 48999, 49999, 50999, 51999, 52999, 53999], 4) := rfl
theorem pu_288a (hT : TT T) : ConH T (288, [(2, 41, 0), (2, 13, 0), (2, 22, 0), (0, (-2147483648), 2147483647), (0, (-2147483648), 2147483647)], (9, 0, 0), [41010, 41011, 41012, 41013, 42000, 42001, 42002, 42003, 42004, 42005, 42006, 42007, 43999, 44999, 45999, 46999, 47999, 48999, 49999, 50999, 51999, 52999, 53999], 4) := fun args m => ((all_con hT 391).1 (by decide)) _ cu_288a args m
set_option maxRecDepth 100000 in
theorem cu_238s : conL[215]? = some (238, [(2, 19, 0), (0, (-2147483648), 2147483647), (0, (-2147483648), 2147483647)], (9, 0, 0), [19999], 0) := rfl
theorem pu_238s (hT : TT T) : ConH T (238, [(2, 19, 0), (0, (-2147483648), 2147483647), (0, (-2147483648), 2147483647)], (9, 0, 0), [19999], 0) := fun args m => ((all_con hT 215).1 (by decide)) _ cu_238s args m
theorem gq_o4v : gq0 (2, 4, 0) (2, 4) := (gq_2 rfl).mpr ⟨rfl, by decide, by decide, by decide⟩
theorem gq_o13v : gq0 (2, 13, 0) (2, 13) := (gq_2 rfl).mpr ⟨rfl, by decide, by decide, by decide⟩
theorem gq_o19v : gq0 (2, 19, 0) (2, 19) := (gq_2 rfl).mpr ⟨rfl, by decide, by decide, by decide⟩
theorem gq_o22v : gq0 (2, 22, 0) (2, 22) := (gq_2 rfl).mpr ⟨rfl, by decide, by decide, by decide⟩
theorem gq_o25v : gq0 (2, 25, 0) (2, 25) := (gq_2 rfl).mpr ⟨rfl, by decide, by decide, by decide⟩
theorem gq_o41v : gq0 (2, 41, 0) (2, 41) := (gq_2 rfl).mpr ⟨rfl, by decide, by decide, by decide⟩
theorem z_258d (hT : TT T) (hp : PinR m) {k : Nat} (hk : k < 5) : GX T 1 258 0 [(2, 13), (0, (k : Int))] [] m (RI (fun v m1 => v = m 18 k ∧ m1 = m)) := by
  refine gx_st (L' := [(2, 13), (0, (k : Int))]) (S' := [(2, 13)]) r_258_0 rfl rfl rfl ?_
  refine gx_gf (x := 18) 2 r_258_1 (rfl) (ty_13 hT) ⟨by decide, rfl, by decide, by decide⟩ rfl (fun _ => by omega) (pin_at hp (t := 18) rfl (by decide)) ?_
  refine gx_st (L' := [(2, 13), (0, (k : Int))]) (S' := [(0, (k : Int)), (2, 18)]) r_258_4 rfl rfl rfl ?_
  refine gx_ci (nx := 8) (S2 := []) (c_237 (r := 18) (n := 5) (ty_18 hT) (by decide) (by decide) (k := k) hk) r_258_5 rfl rfl rfl rfl rfl rfl rfl (by decide) rfl (fun x5 n5 q5 => ?_)
  obtain rfl := q5.1.symm
  obtain rfl := q5.2.symm
  show GX T 1 258 8 [(2, 13), (0, (k : Int))] [(0, (m 18 k))] m (RI (fun v m1 => v = m 18 k ∧ m1 = m))
  exact gx_rt r_258_8 rfl rfl ⟨_, rfl, ⟨rfl, rfl⟩⟩
theorem z_254d (hT : TT T) (hp : PinR m) (hm : Gam m) {w : Wd} (hw : WD m 4 w) : GX T 1 254 0 [(2, 13), (2, 4)] [] m (RV (fun m1 => WD m1 13 w ∧ PinR m1 ∧ Gam m1 ∧ (∀ i : Nat, m1 26 i = m 26 i) ∧ ∀ i : Nat, m1 23 i = m 23 i)) := by
  have c := gx_hv (args := [(2, 13), (2, 4)]) (pu_254d hT) ⟨gq_o13v, gq_o4v, trivial⟩ hm rfl
  exact gx_imp (gx_av (z_254 (o := 13) (s := 4) (IsleT_of hT rfl) (IsleT_of hT rfl) (IsleR_of hp rfl) (IsleR_of hp rfl) (by decide)) c) (fun v m1 ⟨e, ⟨c1, c2, _⟩, g, f⟩ => ⟨e, WD_cp hw ⟨c1, c2⟩, PinR_fr f (by decide) hp, g, fun i => f 26 i rfl, fun i => f 23 i rfl⟩)
theorem dl_l (hT : TT T) {w : Wd} (hb : WBf w) {D : Nat → Nat → Int} (hD : WyD w D) {n : Nat} (hn : w 1 = (n : Int)) (hn12 : n ≤ 12) : ∀ (N k : Nat) (p : Mm), 21 - k < N → 1 ≤ k → k ≤ 21 → PinR p → Gam p → NA p → (∃ x : Int, WD p 13 (upw w 2 x)) → (∀ j : Nat, j < k → ¬ (1 ≤ j ∧ dropP w D n j)) → GX T 5 37 26 [(2, 1), (0, (k : Int))] [] p (RI (fun v m1 => FirstOf 21 (fun k => 1 ≤ k ∧ dropP w D n k) v)) := by
  intro N
  induction N with
  | zero => intro k p hN; exact absurd hN (Nat.not_lt_zero _)
  | succ N ih =>
    intro k p hN hk1 hk hp gp na hx hno
    obtain ⟨x, hw⟩ := hx
    refine gx_st (L' := [(2, 1), (0, (k : Int))]) (S' := [(0, (k : Int))]) r_37_26 rfl rfl rfl ?_
    refine gx_st (L' := [(2, 1), (0, (k : Int))]) (S' := [(0, 20), (0, (k : Int))]) r_37_27 rfl rfl rfl ?_
    refine gx_ic (P := 20 < (k : Int)) r_37_29 (rfl) (fun h29 => ?_) (fun h29 => ?_)
    · refine gx_st (L' := [(2, 1), (0, (k : Int))]) (S' := [(0, (-1))]) r_37_82 rfl rfl rfl ?_
      have hk21 : k = 21 := by omega
      subst hk21
      exact gx_rt r_37_83 rfl rfl ⟨_, rfl, Or.inl ⟨rfl, hno⟩⟩
    · refine gx_st (L' := [(2, 1), (0, (k : Int))]) (S' := [(2, 1)]) r_37_32 rfl rfl rfl ?_
      refine gx_gf (x := 13) 2 r_37_33 (rfl) (ty_1 hT) ⟨by decide, rfl, by decide, by decide⟩ rfl (fun _ => by omega) (pin_at hp (t := 13) rfl (by decide)) ?_
      refine gx_st (L' := [(2, 1), (0, (k : Int))]) (S' := [(0, (k : Int)), (2, 13)]) r_37_36 rfl rfl rfl ?_
      obtain ⟨m1, e_m1⟩ : ∃ z, z = nu_up p 13 3 (k : Int) := ⟨_, rfl⟩
      refine gx_pf (x := (k : Int)) 0 r_37_37 (rfl) (ty_13 hT) ⟨by decide, rfl, by decide, by decide⟩ rfl (fun z => absurd z (by decide)) (fun z => absurd z (by decide)) e_m1.symm ?_
      have g_m1 : Gam m1 := by rw [e_m1]; exact Gam_up gp ((gc_0 rfl).mpr ⟨(show (-2147483648 : Int) ≤ (k : Int) by omega), (show (k : Int) ≤ 2147483647 by omega)⟩)
      have p_m1 : PinR m1 := by rw [e_m1]; exact PinR_up hp rfl
      have n_m1 : NA m1 := fun h hh => by rw [e_m1, nu_no (by decide)]; exact na h hh
      have w_m1 : WD m1 13 (upw w 2 (k : Int)) := by
        have z := wd_2 hw (k : Int)
        rw [upw_upw] at z
        rw [e_m1]; exact z
      have bf := wbf_2 (k := (k : Int)) hb (by omega)
      have dk := wyd_u (x := (k : Int)) (Or.inl rfl) hD
      refine gx_st (L' := [(2, 1), (0, (k : Int))]) (S' := [(2, 1)]) r_37_40 rfl rfl rfl ?_
      refine gx_gf (x := 41) 2 r_37_41 (rfl) (ty_1 hT) ⟨by decide, rfl, by decide, by decide⟩ rfl (fun _ => by omega) (pin_at p_m1 (t := 41) rfl (by decide)) ?_
      refine gx_st (L' := [(2, 1), (0, (k : Int))]) (S' := [(2, 1), (2, 41)]) r_37_44 rfl rfl rfl ?_
      refine gx_gf (x := 13) 2 r_37_45 (rfl) (ty_1 hT) ⟨by decide, rfl, by decide, by decide⟩ rfl (fun _ => by omega) (pin_at p_m1 (t := 13) rfl (by decide)) ?_
      refine gx_st (L' := [(2, 1), (0, (k : Int))]) (S' := [(2, 1), (2, 13), (2, 41)]) r_37_48 rfl rfl rfl ?_
      refine gx_gf (x := 25) 2 r_37_49 (rfl) (ty_1 hT) ⟨by decide, rfl, by decide, by decide⟩ rfl (fun _ => by omega) (pin_at p_m1 (t := 25) rfl (by decide)) ?_
      refine gx_st (L' := [(2, 1), (0, (k : Int))]) (S' := [(0, 0), (2, 25), (2, 13), (2, 41)]) r_37_52 rfl rfl rfl ?_
      refine gx_st (L' := [(2, 1), (0, (k : Int))]) (S' := [(2, 1), (0, 0), (2, 25), (2, 13), (2, 41)]) r_37_53 rfl rfl rfl ?_
      refine gx_gf (x := 13) 2 r_37_54 (rfl) (ty_1 hT) ⟨by decide, rfl, by decide, by decide⟩ rfl (fun _ => by omega) (pin_at p_m1 (t := 13) rfl (by decide)) ?_
      refine gx_st (L' := [(2, 1), (0, (k : Int))]) (S' := [(0, 0), (2, 13), (0, 0), (2, 25), (2, 13), (2, 41)]) r_37_57 rfl rfl rfl ?_
      refine gx_ci (nx := 61) (S2 := [(0, 0), (2, 25), (2, 13), (2, 41)]) (z_258d hT p_m1 (k := 0) (by decide)) r_37_58 rfl rfl rfl rfl rfl (rcv_v rfl (ty_13 hT) (by decide) rfl (by decide)) rfl (by decide) rfl (fun x58 n58 q58 => ?_)
      obtain ⟨e_x58, z_x58⟩ := q58
      obtain rfl := z_x58.symm
      rw [e_x58]
      show GX T 5 37 61 [(2, 1), (0, (k : Int))] [(0, (m1 18 0)), (0, 0), (2, 25), (2, 13), (2, 41)] m1 (RI (fun v m1 => FirstOf 21 (fun k => 1 ≤ k ∧ dropP w D n k) v))
      have hA : ∀ h : Nat, h < 12 → 0 ≤ m1 26 h ∧ m1 26 h ≤ 16 := fun h hh => by rw [n_m1 h hh]; decide
      have be := begin_eq (w := upw w 2 (k : Int)) (x := m1 18 0) (y := upw w 2 (k : Int) 47) (fun z => (wd_bear w_m1 (b := 0) z).1)
      have hS : SB (upw w 2 (k : Int)) (beginF (upw w 2 (k : Int)) ((0 : Nat) : Int) (m1 18 0)) 0 := by
        show SB (upw w 2 (k : Int)) (beginF (upw w 2 (k : Int)) 0 (m1 18 0)) 0
        rw [be]
        exact sb_begin bf.1 bf.2 (by decide) (fun z => by have y := w_m1.2.2.2.2.2 0 (by decide) z; exact ⟨y.1, y.2.1⟩)
      have w1 : (upw w 2 (k : Int)) 1 = (n : Int) := (upw_ne (by omega)).trans hn
      refine gx_cv (nx := 64) (S2 := []) (gx_av (z_288 hT (o := 13) (so := 41) (ac := 25) (IsleT_of hT rfl) (IsleR_of p_m1 rfl) w_m1 (stT_41 hT) (ActsT_of hT rfl) (ActsR_of p_m1 rfl) (by decide) (by decide) dk hA w1 hn12 (stR_41 p_m1) (b := 0) hS) (gx_hv (args := [(2, 41), (2, 13), (2, 25), (0, 0), (0, m1 18 0)]) (pu_288n hT) ⟨gq_o41v, gq_o13v, gq_o25v, gq_any (by decide) (by decide), gq_any (gu_i (g_m1 18 (by decide) (by decide) 0 (by decide)) rfl).1 (gu_i (g_m1 18 (by decide) (by decide) 0 (by decide)) rfl).2, trivial⟩ g_m1 rfl)) r_37_61 rfl rfl rfl rfl rfl (rcv_v rfl (ty_41 hT) (by decide) rfl (by decide)) rfl (by decide) rfl (fun n61 q61 => ?_)
      obtain ⟨⟨sd, fs⟩, gn, fr⟩ := q61
      have pn : PinR n61 := PinR_fr fr (by decide) p_m1
      rw [show beginF (upw w 2 (k : Int)) ((0 : Nat) : Int) (m1 18 0) = beginF (upw w 2 (k : Int)) 0 ((upw w 2 (k : Int)) 47) from be, show (upw w 2 (k : Int)) 47 = w 47 from upw_ne (by omega)] at sd
      show GX T 5 37 64 [(2, 1), (0, (k : Int))] [] n61 (RI (fun v m1 => FirstOf 21 (fun k => 1 ≤ k ∧ dropP w D n k) v))
      refine gx_st (L' := [(2, 1), (0, (k : Int))]) (S' := [(2, 1)]) r_37_64 rfl rfl rfl ?_
      refine gx_gf (x := 41) 2 r_37_65 (rfl) (ty_1 hT) ⟨by decide, rfl, by decide, by decide⟩ rfl (fun _ => by omega) (pin_at pn (t := 41) rfl (by decide)) ?_
      have h12_ : n61 41 12 = runF (upw w 2 (k : Int)) D (fun _ => 0) (beginF (upw w 2 (k : Int)) 0 (w 47)) n 16 := sd.2.1.trans (by rw [run_cA n (fun i hi => n_m1 i (by omega))])
      refine gx_gf (x := (runF (upw w 2 (k : Int)) D (fun _ => 0) (beginF (upw w 2 (k : Int)) 0 (w 47)) n 16)) 0 r_37_68 (rfl) (ty_41 hT) ⟨by decide, rfl, by decide, by decide⟩ rfl (fun z => absurd z (by decide)) (h12_) ?_
      refine gx_i0 (P := ¬ (runF (upw w 2 (k : Int)) D (fun _ => 0) (beginF (upw w 2 (k : Int)) 0 (w 47)) n 16) = 0) r_37_71 (rfl) (fun h71 => ?_) (fun h71 => ?_)
      · refine gx_li (z := (k : Int) + 1) (L' := [(2, 1), (0, (k : Int) + 1)]) r_37_76 rfl (w32_eq (by omega) (by omega) (by omega)) rfl ?_
        refine gx_st (L' := [(2, 1), (0, (k : Int) + 1)]) (S' := []) r_37_79 rfl rfl rfl ?_
        rw [show (k : Int) + 1 = ((k + 1 : Nat) : Int) from rfl]
        exact ih (k + 1) n61 (by omega) (by omega) (by omega) pn gn (fun h hh => (fs 26 h (by decide)).trans (n_m1 h hh)) ⟨(k : Int), WD_eq w_m1 (fun q i q1 q2 hi => fs q i (by omega))⟩ (first_s (n := 21) hno (fun z => h71 z))
      · have h71 := Decidable.not_not.mp h71
        refine gx_st (L' := [(2, 1), (0, (k : Int))]) (S' := [(0, (k : Int))]) r_37_74 rfl rfl rfl ?_
        exact gx_rt r_37_75 rfl rfl ⟨_, rfl, Or.inr ⟨k, by omega, ⟨hk1, h71⟩, rfl, hno⟩⟩
theorem k_37 (hT : TT T) (hp : PinR m) (hm : Gam m) (na : NA m) {w : Wd} (hw : WD m 4 w) (hb : WBf w) {D : Nat → Nat → Int} (hD : WyD w D) {n : Nat} (hn : w 1 = (n : Int)) (hn12 : n ≤ 12) : GX T 6 37 0 [(2, 1), (9, 0)] [] m (RI (fun v m1 => (¬ 0 < m 4 0 → v = -2) ∧ (0 < m 4 0 → FirstOf 21 (fun k => 1 ≤ k ∧ dropP w D n k) v))) := by
  refine gx_st (L' := [(2, 1), (9, 0)]) (S' := [(2, 1)]) r_37_0 rfl rfl rfl ?_
  refine gx_gf (x := 4) 2 r_37_1 (rfl) (ty_1 hT) ⟨by decide, rfl, by decide, by decide⟩ rfl (fun _ => by omega) (pin_at hp (t := 4) rfl (by decide)) ?_
  refine gx_ci (nx := 7) (S2 := []) (x_252 hT) r_37_4 rfl rfl rfl rfl rfl (rcv_v rfl (ty_4 hT) (by decide) rfl (by decide)) rfl (by decide) rfl (fun x4 n4 q4 => ?_)
  obtain rfl := q4.1.symm
  obtain rfl := q4.2.symm
  show GX T 6 37 7 [(2, 1), (9, 0)] [(0, (if 0 < m 4 0 then 1 else 0))] m (RI (fun v m1 => (¬ 0 < m 4 0 → v = -2) ∧ (0 < m 4 0 → FirstOf 21 (fun k => 1 ≤ k ∧ dropP w D n k) v)))
  refine gx_i0 (P := 0 < m 4 0) r_37_7 (b01_ne) (fun h7 => ?_) (fun h7 => ?_)
  · refine gx_st (L' := [(2, 1), (9, 0)]) (S' := [(2, 1)]) r_37_13 rfl rfl rfl ?_
    refine gx_gf (x := 13) 2 r_37_14 (rfl) (ty_1 hT) ⟨by decide, rfl, by decide, by decide⟩ rfl (fun _ => by omega) (pin_at hp (t := 13) rfl (by decide)) ?_
    refine gx_st (L' := [(2, 1), (9, 0)]) (S' := [(2, 1), (2, 13)]) r_37_17 rfl rfl rfl ?_
    refine gx_gf (x := 4) 2 r_37_18 (rfl) (ty_1 hT) ⟨by decide, rfl, by decide, by decide⟩ rfl (fun _ => by omega) (pin_at hp (t := 4) rfl (by decide)) ?_
    refine gx_cv (nx := 24) (S2 := []) (z_254d hT hp hm hw) r_37_21 rfl rfl rfl rfl rfl (rcv_v rfl (ty_13 hT) (by decide) rfl (by decide)) rfl (by decide) rfl (fun n21 q21 => ?_)
    obtain ⟨w1, p1, g1, f26, f23⟩ := q21
    show GX T 6 37 24 [(2, 1), (9, 0)] [] n21 (RI (fun v m1 => (¬ 0 < m 4 0 → v = -2) ∧ (0 < m 4 0 → FirstOf 21 (fun k => 1 ≤ k ∧ dropP w D n k) v)))
    refine gx_st (L' := [(2, 1), (9, 0)]) (S' := [(0, 1)]) r_37_24 rfl rfl rfl ?_
    refine gx_st (L' := [(2, 1), (0, 1)]) (S' := []) r_37_25 rfl rfl rfl ?_
    exact gx_imp (gx_d (dl_l hT hb hD hn hn12 21 1 n21 (by omega) (by omega) (by omega) p1 g1 (fun h hh => (f26 h).trans (na h hh)) ⟨w 2, by rw [upw_id]; exact w1⟩ (fun j hj z => by omega)) (by decide)) (fun v m1 ⟨x, e, q⟩ => ⟨x, e, fun z => absurd h7 z, fun _ => q⟩)
  · refine gx_st (L' := [(2, 1), (9, 0)]) (S' := [(0, (-2))]) r_37_10 rfl rfl rfl ?_
    exact gx_rt r_37_12 rfl rfl ⟨_, rfl, fun _ => rfl, fun z => absurd z h7⟩
theorem z_37 (hT : TT T) (hp : PinR m) (hm : Gam m) (hx : Ext m) (r : WX m) (na : NA m) {n : Nat} (hn : m 193 1 = (n : Int)) : GX T 6 37 0 [(2, 1), (9, 0)] [] m (RI (fun v m1 => (¬ 0 < m 4 0 → v = -2) ∧ ∀ D : {D : Nat → Nat → Int // WyD (m 193) D}, 0 < m 4 0 → FirstOf 21 (fun k => 1 ≤ k ∧ dropP (pw (m 193)) D.1 n k) v)) := by
  have b1 := gb_193_1 hm
  obtain ⟨D0, hD0⟩ := ex_D hT hm hx
  have hk := fun (D : {D : Nat → Nat → Int // WyD (m 193) D}) => k_37 hT hp hm na (WD_w r.1 (pw_ag (m 193))) (wbf_pw hm) (wyD_pw.mpr D.2) (n := n) (by rw [pw_at (by decide) (by decide)]; exact hn) (by omega)
  exact gx_imp (gx_alli (hk ⟨D0, hD0⟩) hk) (fun v m1 ⟨x, e, a, z⟩ => ⟨x, e, a.1, fun D => (z D).2⟩)
theorem y_182 (hT : TT T) (hp : PinR m) (hm : Gam m) (hx : Ext m) : GX T 5 182 0 [(2, 192)] [] m (RI (fun v m1 => v = (if 0 < m 193 9 then 1 else 0) ∧ (AsF m1 ∧ ∀ h : Nat, h < 12 → m1 203 h = 0) ∧ PinR m1 ∧ Gam m1 ∧ Ext m1 ∧ FS m1 ∧ m1 193 = m 193)) := by
  refine gx_st (L' := [(2, 192)]) (S' := [(2, 192)]) r_182_0 rfl rfl rfl ?_
  refine gx_cv (nx := 4) (S2 := []) (y_174 hT hp hm hx) r_182_1 rfl rfl rfl rfl rfl (rcv_v rfl (ty_192 hT) (by decide) rfl (by decide)) rfl (by decide) rfl (fun n1 q1 => ?_)
  obtain ⟨⟨a1, a2⟩, hp1, gm1, gx1, fs1, e193⟩ := q1
  show GX T 5 182 4 [(2, 192)] [] n1 (RI (fun v m1 => v = (if 0 < m 193 9 then 1 else 0) ∧ (AsF m1 ∧ ∀ h : Nat, h < 12 → m1 203 h = 0) ∧ PinR m1 ∧ Gam m1 ∧ Ext m1 ∧ FS m1 ∧ m1 193 = m 193))
  refine gx_st (L' := [(2, 192)]) (S' := [(2, 192)]) r_182_4 rfl rfl rfl ?_
  refine gx_ci (nx := 8) (S2 := []) (x_90 hT gm1) r_182_5 rfl rfl rfl rfl rfl (rcv_v rfl (ty_192 hT) (by decide) rfl (by decide)) rfl (by decide) rfl (fun x5 n5 q5 => ?_)
  obtain ⟨e_x5, z_x5⟩ := q5
  obtain rfl := z_x5.symm
  rw [e_x5, e193]
  show GX T 5 182 8 [(2, 192)] [(0, (if 0 < m 193 9 then 1 else 0))] n1 (RI (fun v m1 => v = (if 0 < m 193 9 then 1 else 0) ∧ (AsF m1 ∧ ∀ h : Nat, h < 12 → m1 203 h = 0) ∧ PinR m1 ∧ Gam m1 ∧ Ext m1 ∧ FS m1 ∧ m1 193 = m 193))
  exact gx_rb r_182_8 rfl (by split <;> omega) ⟨_, rfl, rfl, ⟨a1, a2⟩, hp1, gm1, gx1, fs1, e193⟩
theorem dr2_l (hT : TT T) (hp : PinR m) {w : Wd} (wb : WB w) (wp : WP w) (wf : WBf w) (ew : EW (-1) m w) (hD : WyD w (fun x y => m 199 (7 * x + y))) (ha : ∀ h : Nat, h < 12 → m 203 h = 0) {n : Nat} (hn : w 1 = (n : Int)) (hn12 : n ≤ 12) : ∀ (N k : Nat) (p : Mm), 21 - k < N → 1 ≤ k → k ≤ 21 → p 192 26 = (k : Int) → (∀ q i : Nat, ¬ (200 ≤ q ∧ q ≤ 202) → ¬ q = 204 → ¬ (q = 192 ∧ (i = 21 ∨ i = 22 ∨ i = 26)) → p q i = m q i) → (∀ j : Nat, j < k → ¬ (1 ≤ j ∧ dropP w (fun x y => m 199 (7 * x + y)) n j)) → GX T 8 193 15 [(2, 192)] [] p (RI (fun v m1 => FirstOf 21 (fun k => 1 ≤ k ∧ dropP w (fun x y => m 199 (7 * x + y)) n k) v)) := by
  intro N
  induction N with
  | zero => intro k p hN; exact absurd hN (Nat.not_lt_zero _)
  | succ N ih =>
    intro k p hN hk1 hk h26 hf hno
    have pp : PinR p := fun o i hq => (hf o i (fun z => hq (pin_200 o z.1 z.2 i)) (fun z => by rw [z] at hq; exact hq rfl) (fun z => by obtain ⟨z1, z2 | z2 | z2⟩ := z <;> (subst z1; subst z2; exact hq rfl))).trans (hp o i hq)
    refine gx_st (L' := [(2, 192)]) (S' := [(2, 192)]) r_193_15 rfl rfl rfl ?_
    refine gx_gf (x := (k : Int)) 0 r_193_16 (rfl) (ty_192 hT) ⟨by decide, rfl, by decide, by decide⟩ rfl (fun z => absurd z (by decide)) (h26) ?_
    refine gx_st (L' := [(2, 192)]) (S' := [(0, 20), (0, (k : Int))]) r_193_19 rfl rfl rfl ?_
    refine gx_ic (P := 20 < (k : Int)) r_193_21 (rfl) (fun h21 => ?_) (fun h21 => ?_)
    · refine gx_st (L' := [(2, 192)]) (S' := [(0, (-1))]) r_193_53 rfl rfl rfl ?_
      have hk21 : k = 21 := by omega
      subst hk21
      exact gx_rt r_193_54 rfl rfl ⟨_, rfl, Or.inl ⟨rfl, hno⟩⟩
    · refine gx_st (L' := [(2, 192)]) (S' := [(2, 192)]) r_193_24 rfl rfl rfl ?_
      have ewk := ew_w (m1 := p) (k := (k : Int)) ew (by omega) (fun i => hf 193 i (by omega) (by omega) (by omega)) (fun i i1 i2 i3 => hf 192 i (by omega) (by omega) (by omega)) h26
      have wfk := wbf_2 (k := (k : Int)) wf (by omega)
      have e203 : p 203 = m 203 := funext fun i => hf 203 i (by omega) (by omega) (by omega)
      have hS : SB (upw w 2 (k : Int)) (beginF (upw w 2 (k : Int)) 0 (upw w 2 (k : Int) 47)) 0 := sb_begin wfk.1 wfk.2 (by decide) (fun z => by have y := (wp_2 (k := (k : Int)) wp).2.2 0 (by decide) z; exact ⟨y.1, y.2.1⟩)
      refine gx_cv (nx := 28) (S2 := []) (y_145 hT pp (wb_u (Or.inl rfl) wb) ewk (wp_2 wp) (D := fun x y => m 199 (7 * x + y)) (fun a b _ _ => hf 199 (7 * a + b) (by omega) (by omega) (by omega)) (wyd_u (Or.inl rfl) hD) (fun h hh => by rw [e203, ha h hh]; decide) (n := n) ((upw_ne (by decide)).trans hn) hn12 hS (fun t ht _ => by omega)) r_193_25 rfl rfl rfl rfl rfl (rcv_v rfl (ty_192 hT) (by decide) rfl (by decide)) rfl (by decide) rfl (fun n25 q25 => ?_)
      obtain ⟨rp, fg⟩ := q25
      rw [show upw w 2 (k : Int) 47 = w 47 from upw_ne (by decide)] at rp
      have h22_ : n25 192 22 = runF (upw w 2 (k : Int)) (fun x y => m 199 (7 * x + y)) (fun _ => 0) (beginF (upw w 2 (k : Int)) 0 (w 47)) n 16 := rp.2.2.2.1.trans (by rw [e203, run_cA n (fun i hi => ha i (by omega))])
      have h26b : n25 192 26 = (k : Int) := (fg 192 26 (by omega) (by omega) (by omega)).trans h26
      have pn : PinR n25 := pin_g pp fg
      show GX T 8 193 28 [(2, 192)] [] n25 (RI (fun v m1 => FirstOf 21 (fun k => 1 ≤ k ∧ dropP w (fun x y => m 199 (7 * x + y)) n k) v))
      refine gx_st (L' := [(2, 192)]) (S' := [(2, 192)]) r_193_28 rfl rfl rfl ?_
      refine gx_gf (x := (runF (upw w 2 (k : Int)) (fun x y => m 199 (7 * x + y)) (fun _ => 0) (beginF (upw w 2 (k : Int)) 0 (w 47)) n 16)) 0 r_193_29 (rfl) (ty_192 hT) ⟨by decide, rfl, by decide, by decide⟩ rfl (fun z => absurd z (by decide)) (h22_) ?_
      refine gx_i0 (P := ¬ (runF (upw w 2 (k : Int)) (fun x y => m 199 (7 * x + y)) (fun _ => 0) (beginF (upw w 2 (k : Int)) 0 (w 47)) n 16) = 0) r_193_32 (rfl) (fun h32 => ?_) (fun h32 => ?_)
      · refine gx_st (L' := [(2, 192)]) (S' := [(2, 192)]) r_193_40 rfl rfl rfl ?_
        refine gx_st (L' := [(2, 192)]) (S' := [(2, 192), (2, 192)]) r_193_41 rfl rfl rfl ?_
        refine gx_gf (x := (k : Int)) 0 r_193_42 (rfl) (ty_192 hT) ⟨by decide, rfl, by decide, by decide⟩ rfl (fun z => absurd z (by decide)) (h26b) ?_
        refine gx_st (L' := [(2, 192)]) (S' := [(0, 1), (0, (k : Int)), (2, 192)]) r_193_45 rfl rfl rfl ?_
        refine gx_ar (L' := [(2, 192)]) (S' := [(2, 192)]) (t := 0) (e := w32 ((k : Int) + 1)) (z := (k : Int) + 1) r_193_46 rfl rfl rfl (w32_eq (by omega) (by omega) (by omega)) ?_
        obtain ⟨m1, e_m1⟩ : ∃ z, z = nu_up n25 192 26 ((k : Int) + 1) := ⟨_, rfl⟩
        refine gx_pf (x := (k : Int) + 1) 0 r_193_47 (rfl) (ty_192 hT) ⟨by decide, rfl, by decide, by decide⟩ rfl (fun z => absurd z (by decide)) (fun z => absurd z (by decide)) e_m1.symm ?_
        refine gx_st (L' := [(2, 192)]) (S' := []) r_193_50 rfl rfl rfl ?_
        exact ih (k + 1) m1 (by omega) (by omega) (by omega) (by rw [e_m1, nu_at]; omega) (fun q i x y z => by rw [e_m1, nu_x (by omega)]; exact (fg q i x y (by omega)).trans (hf q i x y z)) (first_s (n := 21) hno (fun z => h32 z))
      · have h32 := Decidable.not_not.mp h32
        refine gx_st (L' := [(2, 192)]) (S' := [(2, 192)]) r_193_35 rfl rfl rfl ?_
        refine gx_gf (x := (k : Int)) 0 r_193_36 (rfl) (ty_192 hT) ⟨by decide, rfl, by decide, by decide⟩ rfl (fun z => absurd z (by decide)) (h26b) ?_
        exact gx_rt r_193_39 rfl rfl ⟨_, rfl, Or.inr ⟨k, by omega, ⟨hk1, h32⟩, rfl, hno⟩⟩
theorem dr3_l (hT : TT T) (hp : PinR m) {w : Wd} (wb : WB w) (wp : WP w) (wf : WBf w) (ew : EW (-1) m w) (hD : WyD w (fun x y => m 199 (7 * x + y))) (ha : ∀ h : Nat, h < 12 → m 203 h = 0) {n : Nat} (hn : w 1 = (n : Int)) (hn12 : n ≤ 12) (p : Mm) (h26 : p 192 26 = ((1 : Nat) : Int)) (hf : ∀ q i : Nat, ¬ (200 ≤ q ∧ q ≤ 202) → ¬ q = 204 → ¬ (q = 192 ∧ (i = 21 ∨ i = 22 ∨ i = 26)) → p q i = m q i) : GX T 8 193 15 [(2, 192)] [] p (RI (fun v m1 => FirstOf 21 (fun k => 1 ≤ k ∧ dropP w (fun x y => m 199 (7 * x + y)) n k) v)) := dr2_l hT hp wb wp wf ew hD ha hn hn12 21 1 p (by omega) (by omega) (by omega) h26 hf (fun j hj z => by omega)
theorem y_193 (hT : TT T) (hp : PinR m) (hm : Gam m) (hx : Ext m) (wb : WB (pw (m 193))) (wp : WP (pw (m 193))) {n : Nat} (hn : m 193 1 = (n : Int)) : GX T 9 193 0 [(2, 192)] [] m (RI (fun v m1 => (¬ 0 < m 193 9 → v = -2) ∧ (0 < m 193 9 → ∃ D : Nat → Nat → Int, WyD (m 193) D ∧ FirstOf 21 (fun k => 1 ≤ k ∧ dropP (pw (m 193)) D n k) v))) := by
  refine gx_st (L' := [(2, 192)]) (S' := [(2, 192)]) r_193_0 rfl rfl rfl ?_
  refine gx_ci (nx := 4) (S2 := []) (y_182 hT hp hm hx) r_193_1 rfl rfl rfl rfl rfl (rcv_v rfl (ty_192 hT) (by decide) rfl (by decide)) rfl (by decide) rfl (fun x1 n1 q1 => ?_)
  obtain ⟨e_x1, ⟨a1, a2⟩, hp1, gm1, gx1, fs1, e193⟩ := q1
  rw [e_x1]
  show GX T 9 193 4 [(2, 192)] [(0, (if 0 < m 193 9 then 1 else 0))] n1 (RI (fun v m1 => (¬ 0 < m 193 9 → v = -2) ∧ (0 < m 193 9 → ∃ D : Nat → Nat → Int, WyD (m 193) D ∧ FirstOf 21 (fun k => 1 ≤ k ∧ dropP (pw (m 193)) D n k) v)))
  show GX T 9 193 4 [(2, 192)] [(0, (if 0 < m 193 9 then 1 else 0))] n1 (RI (fun v m1 => (¬ 0 < m 193 9 → v = -2) ∧ (0 < m 193 9 → ∃ D : Nat → Nat → Int, WyD (m 193) D ∧ FirstOf 21 (fun k => 1 ≤ k ∧ dropP (pw (m 193)) D n k) v)))
  refine gx_i0 (P := 0 < m 193 9) r_193_4 (b01_ne) (fun h4 => ?_) (fun h4 => ?_)
  · refine gx_st (L' := [(2, 192)]) (S' := [(2, 192)]) r_193_10 rfl rfl rfl ?_
    refine gx_st (L' := [(2, 192)]) (S' := [(0, 1), (2, 192)]) r_193_11 rfl rfl rfl ?_
    obtain ⟨m1, e_m1⟩ : ∃ z, z = nu_up n1 192 26 1 := ⟨_, rfl⟩
    refine gx_pf (x := 1) 0 r_193_12 (rfl) (ty_192 hT) ⟨by decide, rfl, by decide, by decide⟩ rfl (fun z => absurd z (by decide)) (fun z => absurd z (by decide)) e_m1.symm ?_
    have hw1 : WyD (pw (m 193)) (fun x y => n1 199 (7 * x + y)) := by
      rw [wyD_pw, ← e193]; exact fs1
    have ea := ew_as gm1 a1
    rw [e193] at ea
    have b1 := gb_193_1 hm
    have q26 : EW (-1) n1 (pw (m 193)) := ea
    refine gx_imp (gx_d (dr3_l hT hp1 wb wp (wbf_pw hm) ea hw1 a2 (n := n) (by rw [pw_at (by decide) (by decide)]; exact hn) (by omega) m1 (by rw [e_m1, nu_at]; rfl) (fun q i _ _ z => by rw [e_m1, nu_x (by omega)])) (by decide)) (fun v m1 ⟨x, e, q⟩ => ⟨x, e, fun z => absurd h4 z, fun _ => ⟨_, wyD_pw.mp hw1, q⟩⟩)
  · refine gx_st (L' := [(2, 192)]) (S' := [(0, (-2))]) r_193_7 rfl rfl rfl ?_
    exact gx_rt r_193_9 rfl rfl ⟨_, rfl, fun _ => rfl, fun z => absurd z h4⟩
theorem nl_l (hT : TT T) {w : Wd} (wf : WBf w) {D : Nat → Nat → Int} (hD : WyD w D) {A : Nat → Int} {n b : Nat} (hn : w 1 = (n : Int)) (hn12 : n ≤ 12) (hb5 : b < 5) (hAb : ∀ h : Nat, h < 12 → 0 ≤ A h ∧ A h ≤ 16) : ∀ (N k : Nat) (p : Mm), 100 - k < N → 1 ≤ k → k ≤ 100 → PinR p → Gam p → (∀ h : Nat, h < 12 → p 23 h = A h) → (∃ x : Int, WD p 13 (upw w (48 + 2 * b) x)) → (∀ j : Nat, j < k → ¬ (1 ≤ j ∧ needP w D A n b j)) → GX T 5 36 30 [(2, 1), (0, (b : Int)), (0, (k : Int))] [] p (RI (fun v m1 => FirstOf 100 (fun k => 1 ≤ k ∧ needP w D A n b k) v)) := by
  intro N
  induction N with
  | zero => intro k p hN; exact absurd hN (Nat.not_lt_zero _)
  | succ N ih =>
    intro k p hN hk1 hk hp gp na hx hno
    obtain ⟨x, hw⟩ := hx
    have fc : FreeC (48 + 2 * b) := Or.inr ⟨by omega, by omega⟩
    refine gx_st (L' := [(2, 1), (0, (b : Int)), (0, (k : Int))]) (S' := [(0, (k : Int))]) r_36_30 rfl rfl rfl ?_
    refine gx_st (L' := [(2, 1), (0, (b : Int)), (0, (k : Int))]) (S' := [(0, 99), (0, (k : Int))]) r_36_31 rfl rfl rfl ?_
    refine gx_ic (P := 99 < (k : Int)) r_36_33 (rfl) (fun h33 => ?_) (fun h33 => ?_)
    · refine gx_st (L' := [(2, 1), (0, (b : Int)), (0, (k : Int))]) (S' := [(0, (-1))]) r_36_94 rfl rfl rfl ?_
      have hk21 : k = 100 := by omega
      subst hk21
      exact gx_rt r_36_95 rfl rfl ⟨_, rfl, Or.inl ⟨rfl, hno⟩⟩
    · refine gx_st (L' := [(2, 1), (0, (b : Int)), (0, (k : Int))]) (S' := [(2, 1)]) r_36_36 rfl rfl rfl ?_
      refine gx_gf (x := 13) 2 r_36_37 (rfl) (ty_1 hT) ⟨by decide, rfl, by decide, by decide⟩ rfl (fun _ => by omega) (pin_at hp (t := 13) rfl (by decide)) ?_
      refine gx_gf (x := 19) 2 r_36_40 (rfl) (ty_13 hT) ⟨by decide, rfl, by decide, by decide⟩ rfl (fun _ => by omega) (pin_at hp (t := 19) rfl (by decide)) ?_
      refine gx_st (L' := [(2, 1), (0, (b : Int)), (0, (k : Int))]) (S' := [(0, (b : Int)), (2, 19)]) r_36_43 rfl rfl rfl ?_
      refine gx_st (L' := [(2, 1), (0, (b : Int)), (0, (k : Int))]) (S' := [(0, (k : Int)), (0, (b : Int)), (2, 19)]) r_36_44 rfl rfl rfl ?_
      refine gx_cv (nx := 48) (S2 := []) (gx_av (c_238 (r := 19) (n := 5) (ty_19 hT) (by decide) (by decide) (k := b) hb5 (k : Int)) (gx_hv (args := [(2, 19), (0, (b : Int)), (0, (k : Int))]) (pu_238s hT) ⟨gq_o19v, gq_any (by omega) (by omega), gq_any (by omega) (by omega), trivial⟩ gp rfl)) r_36_45 rfl rfl rfl rfl rfl rfl rfl (by decide) rfl (fun n45 q45 => ?_)
      obtain ⟨e_n45, g_n45, fq⟩ := q45
      have p_n45 : PinR n45 := PinR_fr fq (by decide) hp
      have n_n45 : ∀ h : Nat, h < 12 → n45 23 h = A h := fun h hh => (fq 23 h rfl).trans (na h hh)
      have w_n45 : WD n45 13 (upw w (48 + 2 * b) (k : Int)) := by
        have z := wd_s hw hb5 (k := (k : Int)) (by omega)
        rw [upw_upw] at z
        rw [e_n45]; exact z
      have bf := wbf_s (k := (k : Int)) wf hb5
      have dk := wyd_u (x := (k : Int)) fc hD
      show GX T 5 36 48 [(2, 1), (0, (b : Int)), (0, (k : Int))] [] n45 (RI (fun v m1 => FirstOf 100 (fun k => 1 ≤ k ∧ needP w D A n b k) v))
      refine gx_st (L' := [(2, 1), (0, (b : Int)), (0, (k : Int))]) (S' := [(2, 1)]) r_36_48 rfl rfl rfl ?_
      refine gx_gf (x := 41) 2 r_36_49 (rfl) (ty_1 hT) ⟨by decide, rfl, by decide, by decide⟩ rfl (fun _ => by omega) (pin_at p_n45 (t := 41) rfl (by decide)) ?_
      refine gx_st (L' := [(2, 1), (0, (b : Int)), (0, (k : Int))]) (S' := [(2, 1), (2, 41)]) r_36_52 rfl rfl rfl ?_
      refine gx_gf (x := 13) 2 r_36_53 (rfl) (ty_1 hT) ⟨by decide, rfl, by decide, by decide⟩ rfl (fun _ => by omega) (pin_at p_n45 (t := 13) rfl (by decide)) ?_
      refine gx_st (L' := [(2, 1), (0, (b : Int)), (0, (k : Int))]) (S' := [(2, 1), (2, 13), (2, 41)]) r_36_56 rfl rfl rfl ?_
      refine gx_gf (x := 22) 2 r_36_57 (rfl) (ty_1 hT) ⟨by decide, rfl, by decide, by decide⟩ rfl (fun _ => by omega) (pin_at p_n45 (t := 22) rfl (by decide)) ?_
      refine gx_st (L' := [(2, 1), (0, (b : Int)), (0, (k : Int))]) (S' := [(0, 0), (2, 22), (2, 13), (2, 41)]) r_36_60 rfl rfl rfl ?_
      refine gx_st (L' := [(2, 1), (0, (b : Int)), (0, (k : Int))]) (S' := [(2, 1), (0, 0), (2, 22), (2, 13), (2, 41)]) r_36_61 rfl rfl rfl ?_
      refine gx_gf (x := 13) 2 r_36_62 (rfl) (ty_1 hT) ⟨by decide, rfl, by decide, by decide⟩ rfl (fun _ => by omega) (pin_at p_n45 (t := 13) rfl (by decide)) ?_
      refine gx_st (L' := [(2, 1), (0, (b : Int)), (0, (k : Int))]) (S' := [(0, 0), (2, 13), (0, 0), (2, 22), (2, 13), (2, 41)]) r_36_65 rfl rfl rfl ?_
      refine gx_ci (nx := 69) (S2 := [(0, 0), (2, 22), (2, 13), (2, 41)]) (z_258d hT p_n45 (k := 0) (by decide)) r_36_66 rfl rfl rfl rfl rfl (rcv_v rfl (ty_13 hT) (by decide) rfl (by decide)) rfl (by decide) rfl (fun x66 n66 q66 => ?_)
      obtain ⟨e_x66, z_x66⟩ := q66
      obtain rfl := z_x66.symm
      rw [e_x66]
      show GX T 5 36 69 [(2, 1), (0, (b : Int)), (0, (k : Int))] [(0, (n45 18 0)), (0, 0), (2, 22), (2, 13), (2, 41)] n45 (RI (fun v m1 => FirstOf 100 (fun k => 1 ≤ k ∧ needP w D A n b k) v))
      have hA : ∀ h : Nat, h < 12 → 0 ≤ n45 23 h ∧ n45 23 h ≤ 16 := fun h hh => by rw [n_n45 h hh]; exact hAb h hh
      have be := begin_eq (w := upw w (48 + 2 * b) (k : Int)) (x := n45 18 0) (y := upw w (48 + 2 * b) (k : Int) 47) (fun z => (wd_bear w_n45 (b := 0) z).1)
      have hS : SB (upw w (48 + 2 * b) (k : Int)) (beginF (upw w (48 + 2 * b) (k : Int)) ((0 : Nat) : Int) (n45 18 0)) 0 := by
        show SB (upw w (48 + 2 * b) (k : Int)) (beginF (upw w (48 + 2 * b) (k : Int)) 0 (n45 18 0)) 0
        rw [be]
        exact sb_begin bf.1 bf.2 (by decide) (fun z => by have y := w_n45.2.2.2.2.2 0 (by decide) z; exact ⟨y.1, y.2.1⟩)
      have w1 : (upw w (48 + 2 * b) (k : Int)) 1 = (n : Int) := (upw_ne (by omega)).trans hn
      refine gx_cv (nx := 72) (S2 := []) (gx_av (z_288 hT (o := 13) (so := 41) (ac := 22) (IsleT_of hT rfl) (IsleR_of p_n45 rfl) w_n45 (stT_41 hT) (ActsT_of hT rfl) (ActsR_of p_n45 rfl) (by decide) (by decide) dk hA w1 hn12 (stR_41 p_n45) (b := 0) hS) (gx_hv (args := [(2, 41), (2, 13), (2, 22), (0, 0), (0, n45 18 0)]) (pu_288a hT) ⟨gq_o41v, gq_o13v, gq_o22v, gq_any (by decide) (by decide), gq_any (gu_i (g_n45 18 (by decide) (by decide) 0 (by decide)) rfl).1 (gu_i (g_n45 18 (by decide) (by decide) 0 (by decide)) rfl).2, trivial⟩ g_n45 rfl)) r_36_69 rfl rfl rfl rfl rfl (rcv_v rfl (ty_41 hT) (by decide) rfl (by decide)) rfl (by decide) rfl (fun n69 q69 => ?_)
      obtain ⟨⟨sd, fs⟩, gn, fr⟩ := q69
      have pn : PinR n69 := PinR_fr fr (by decide) p_n45
      rw [show beginF (upw w (48 + 2 * b) (k : Int)) ((0 : Nat) : Int) (n45 18 0) = beginF (upw w (48 + 2 * b) (k : Int)) 0 ((upw w (48 + 2 * b) (k : Int)) 47) from be, show (upw w (48 + 2 * b) (k : Int)) 47 = w 47 from upw_ne (by omega)] at sd
      show GX T 5 36 72 [(2, 1), (0, (b : Int)), (0, (k : Int))] [] n69 (RI (fun v m1 => FirstOf 100 (fun k => 1 ≤ k ∧ needP w D A n b k) v))
      refine gx_st (L' := [(2, 1), (0, (b : Int)), (0, (k : Int))]) (S' := [(2, 1)]) r_36_72 rfl rfl rfl ?_
      refine gx_gf (x := 41) 2 r_36_73 (rfl) (ty_1 hT) ⟨by decide, rfl, by decide, by decide⟩ rfl (fun _ => by omega) (pin_at pn (t := 41) rfl (by decide)) ?_
      have h13_ : n69 41 13 = runF (upw w (48 + 2 * b) (k : Int)) D A (beginF (upw w (48 + 2 * b) (k : Int)) 0 (w 47)) n 5 := sd.2.2.trans (by rw [run_cA n (fun i hi => n_n45 i (by omega))])
      refine gx_gf (x := (runF (upw w (48 + 2 * b) (k : Int)) D A (beginF (upw w (48 + 2 * b) (k : Int)) 0 (w 47)) n 5)) 0 r_36_76 (rfl) (ty_41 hT) ⟨by decide, rfl, by decide, by decide⟩ rfl (fun z => absurd z (by decide)) (h13_) ?_
      refine gx_st (L' := [(2, 1), (0, (b : Int)), (0, (k : Int))]) (S' := [(0, (b : Int)), (0, (runF (upw w (48 + 2 * b) (k : Int)) D A (beginF (upw w (48 + 2 * b) (k : Int)) 0 (w 47)) n 5))]) r_36_79 rfl rfl rfl ?_
      refine gx_ci (nx := 83) (S2 := []) (x_242 ((runF (upw w (48 + 2 * b) (k : Int)) D A (beginF (upw w (48 + 2 * b) (k : Int)) 0 (w 47)) n 5)) (b : Int)) r_36_80 rfl rfl rfl rfl rfl rfl rfl (by decide) rfl (fun x80 n80 q80 => ?_)
      obtain rfl := q80.1.symm
      obtain rfl := q80.2.symm
      show GX T 5 36 83 [(2, 1), (0, (b : Int)), (0, (k : Int))] [(0, (if 0 ≤ (b : Int) ∧ (b : Int) < 32 ∧ iand (ishr ((runF (upw w (48 + 2 * b) (k : Int)) D A (beginF (upw w (48 + 2 * b) (k : Int)) 0 (w 47)) n 5)) (b : Int)) 1 = 1 then 1 else 0))] n69 (RI (fun v m1 => FirstOf 100 (fun k => 1 ≤ k ∧ needP w D A n b k) v))
      refine gx_i0 (P := 0 ≤ (b : Int) ∧ (b : Int) < 32 ∧ iand (ishr ((runF (upw w (48 + 2 * b) (k : Int)) D A (beginF (upw w (48 + 2 * b) (k : Int)) 0 (w 47)) n 5)) (b : Int)) 1 = 1) r_36_83 (b01_ne) (fun h83 => ?_) (fun h83 => ?_)
      · refine gx_li (z := (k : Int) + 1) (L' := [(2, 1), (0, (b : Int)), (0, (k : Int) + 1)]) r_36_88 rfl (w32_eq (by omega) (by omega) (by omega)) rfl ?_
        refine gx_st (L' := [(2, 1), (0, (b : Int)), (0, (k : Int) + 1)]) (S' := []) r_36_91 rfl rfl rfl ?_
        rw [show (k : Int) + 1 = ((k + 1 : Nat) : Int) from rfl]
        exact ih (k + 1) n69 (by omega) (by omega) (by omega) pn gn (fun h hh => (fs 23 h (by decide)).trans (n_n45 h hh)) ⟨(k : Int), WD_eq w_n45 (fun q i q1 q2 hi => fs q i (by omega))⟩ (first_s (n := 100) hno (fun z => (iand_01 _).mp z h83.2.2))
      · refine gx_st (L' := [(2, 1), (0, (b : Int)), (0, (k : Int))]) (S' := [(0, (k : Int))]) r_36_86 rfl rfl rfl ?_
        exact gx_rt r_36_87 rfl rfl ⟨_, rfl, Or.inr ⟨k, by omega, ⟨hk1, (iand_01 _).mpr (fun z => h83 ⟨by omega, by omega, z⟩)⟩, rfl, hno⟩⟩
theorem k_36 (hT : TT T) (hp : PinR m) (hm : Gam m) {w : Wd} (hw : WD m 4 w) (wf : WBf w) {D : Nat → Nat → Int} (hD : WyD w D) {n : Nat} (hn : w 1 = (n : Int)) (hn12 : n ≤ 12) (h8 : m 4 8 ≤ 5) (hAb : ∀ h : Nat, h < 12 → 0 ≤ m 23 h ∧ m 23 h ≤ 16) (a : Int) : GX T 6 36 0 [(2, 1), (0, a), (9, 0)] [] m (RI (fun v m1 => (¬ (0 ≤ a ∧ a < m 4 8) → v = -2) ∧ ∀ b : Nat, a = (b : Int) → (0 ≤ a ∧ a < m 4 8) → FirstOf 100 (fun k => 1 ≤ k ∧ needP w D (m 23) n b k) v)) := by
  refine gx_st (L' := [(2, 1), (0, a), (9, 0)]) (S' := [(0, a)]) r_36_0 rfl rfl rfl ?_
  refine gx_st (L' := [(2, 1), (0, a), (9, 0)]) (S' := [(2, 1), (0, a)]) r_36_1 rfl rfl rfl ?_
  refine gx_gf (x := 4) 2 r_36_2 (rfl) (ty_1 hT) ⟨by decide, rfl, by decide, by decide⟩ rfl (fun _ => by omega) (pin_at hp (t := 4) rfl (by decide)) ?_
  refine gx_gf (x := (m 4 8)) 0 r_36_5 (rfl) (ty_4 hT) ⟨by decide, rfl, by decide, by decide⟩ rfl (fun z => absurd z (by decide)) (rfl) ?_
  refine gx_ci (nx := 11) (S2 := []) (x_71 a (m 4 8)) r_36_8 rfl rfl rfl rfl rfl rfl rfl (by decide) rfl (fun x8 n8 q8 => ?_)
  obtain rfl := q8.1.symm
  obtain rfl := q8.2.symm
  show GX T 6 36 11 [(2, 1), (0, a), (9, 0)] [(0, (if 0 ≤ a ∧ a < (m 4 8) then 1 else 0))] m (RI (fun v m1 => (¬ (0 ≤ a ∧ a < m 4 8) → v = -2) ∧ ∀ b : Nat, a = (b : Int) → (0 ≤ a ∧ a < m 4 8) → FirstOf 100 (fun k => 1 ≤ k ∧ needP w D (m 23) n b k) v))
  refine gx_i0 (P := 0 ≤ a ∧ a < (m 4 8)) r_36_11 (b01_ne) (fun h11 => ?_) (fun h11 => ?_)
  · obtain ⟨ii, h_ii⟩ : ∃ i : Nat, a = (i : Int) := ⟨a.toNat, by omega⟩
    rw [h_ii]
    refine gx_st (L' := [(2, 1), (0, (ii : Int)), (9, 0)]) (S' := [(2, 1)]) r_36_17 rfl rfl rfl ?_
    refine gx_gf (x := 13) 2 r_36_18 (rfl) (ty_1 hT) ⟨by decide, rfl, by decide, by decide⟩ rfl (fun _ => by omega) (pin_at hp (t := 13) rfl (by decide)) ?_
    refine gx_st (L' := [(2, 1), (0, (ii : Int)), (9, 0)]) (S' := [(2, 1), (2, 13)]) r_36_21 rfl rfl rfl ?_
    refine gx_gf (x := 4) 2 r_36_22 (rfl) (ty_1 hT) ⟨by decide, rfl, by decide, by decide⟩ rfl (fun _ => by omega) (pin_at hp (t := 4) rfl (by decide)) ?_
    refine gx_cv (nx := 28) (S2 := []) (z_254d hT hp hm hw) r_36_25 rfl rfl rfl rfl rfl (rcv_v rfl (ty_13 hT) (by decide) rfl (by decide)) rfl (by decide) rfl (fun n25 q25 => ?_)
    obtain ⟨w1, p1, g1, f26, f23⟩ := q25
    show GX T 6 36 28 [(2, 1), (0, (ii : Int)), (9, 0)] [] n25 (RI (fun v m1 => (¬ (0 ≤ (ii : Int) ∧ (ii : Int) < m 4 8) → v = -2) ∧ ∀ b : Nat, (ii : Int) = (b : Int) → (0 ≤ (ii : Int) ∧ (ii : Int) < m 4 8) → FirstOf 100 (fun k => 1 ≤ k ∧ needP w D (m 23) n b k) v))
    refine gx_st (L' := [(2, 1), (0, (ii : Int)), (9, 0)]) (S' := [(0, 1)]) r_36_28 rfl rfl rfl ?_
    refine gx_st (L' := [(2, 1), (0, (ii : Int)), (0, 1)]) (S' := []) r_36_29 rfl rfl rfl ?_
    exact gx_imp (gx_d (nl_l hT wf hD (A := m 23) (b := ii) hn hn12 (by omega) hAb 100 1 n25 (by omega) (by omega) (by omega) p1 g1 (fun h hh => f23 h) ⟨w (48 + 2 * ii), by rw [upw_id]; exact w1⟩ (fun j hj z => by omega)) (by decide)) (fun v m1 ⟨x, e, q⟩ => ⟨x, e, fun z => absurd z (by omega), fun b e1 z => by rw [show b = ii by omega]; exact q⟩)
  · refine gx_st (L' := [(2, 1), (0, a), (9, 0)]) (S' := [(0, (-2))]) r_36_14 rfl rfl rfl ?_
    exact gx_rt r_36_16 rfl rfl ⟨_, rfl, fun _ => rfl, fun b e z => (by exfalso; omega)⟩
theorem acts_b (hm : Gam m) (hx : Ext m) (r : WX m) : ∀ h : Nat, h < 12 → 0 ≤ m 23 h ∧ m 23 h ≤ 16 := fun h hh => by
  by_cases c : HasA (m 193) (h : Int)
  · obtain ⟨i, i1, i2, i3⟩ := c
    rw [r.2.1.2.2.1 i i1 i2 h hh i3]
    have := hx.1.2.1 i i1 i2
    omega
  · rw [r.2.1.2.2.2 h hh c]; decide
theorem z_36 (hT : TT T) (hp : PinR m) (hm : Gam m) (hx : Ext m) (r : WX m) {n : Nat} (hn : m 193 1 = (n : Int)) (a : Int) : GX T 6 36 0 [(2, 1), (0, a), (9, 0)] [] m (RI (fun v m1 => (¬ (0 ≤ a ∧ a < m 4 8) → v = -2) ∧ ∀ D : {D : Nat → Nat → Int // WyD (m 193) D}, ∀ b : Nat, a = (b : Int) → (0 ≤ a ∧ a < m 4 8) → FirstOf 100 (fun k => 1 ≤ k ∧ needP (pw (m 193)) D.1 (m 23) n b k) v)) := by
  have b1 := gb_193_1 hm
  have s2 := wa_s2 hm r
  obtain ⟨D0, hD0⟩ := ex_D hT hm hx
  have hk := fun (D : {D : Nat → Nat → Int // WyD (m 193) D}) => k_36 hT hp hm (WD_w r.1 (pw_ag (m 193))) (wbf_pw hm) (wyD_pw.mpr D.2) (n := n) (by rw [pw_at (by decide) (by decide)]; exact hn) (by omega) (by omega) (acts_b hm hx r) a
  exact gx_imp (gx_alli (hk ⟨D0, hD0⟩) hk) (fun v m1 ⟨x, e, a, z⟩ => ⟨x, e, a.1, fun D => (z D).2⟩)
theorem nr_l (hT : TT T) (hp : PinR m) {w : Wd} (wb : WB w) (wp : WP w) (wf : WBf w) (ew : EW (-1) m w) (hD : WyD w (fun x y => m 199 (7 * x + y))) (h27 : m 192 27 = -1) (hAb : ∀ h : Nat, h < 12 → 0 ≤ m 203 h ∧ m 203 h ≤ 16) {n b : Nat} (hn : w 1 = (n : Int)) (hn12 : n ≤ 12) (hb5 : b < 5) : ∀ (N k : Nat) (p : Mm), 100 - k < N → 1 ≤ k → k ≤ 100 → p 192 27 = (b : Int) → p 192 28 = (k : Int) → (∀ q i : Nat, ¬ (200 ≤ q ∧ q ≤ 202) → ¬ q = 204 → ¬ (q = 192 ∧ (i = 21 ∨ i = 22 ∨ i = 27 ∨ i = 28)) → p q i = m q i) → (∀ j : Nat, j < k → ¬ (1 ≤ j ∧ needP w (fun x y => m 199 (7 * x + y)) (m 203) n b j)) → GX T 8 192 25 [(2, 192), (0, (b : Int))] [] p (RI (fun v m1 => FirstOf 100 (fun k => 1 ≤ k ∧ needP w (fun x y => m 199 (7 * x + y)) (m 203) n b k) v)) := by
  intro N
  induction N with
  | zero => intro k p hN; exact absurd hN (Nat.not_lt_zero _)
  | succ N ih =>
    intro k p hN hk1 hk z27 h28 hf hno
    have fc : FreeC (48 + 2 * b) := Or.inr ⟨by omega, by omega⟩
    have pp : PinR p := fun o i hq => (hf o i (fun z => hq (pin_200 o z.1 z.2 i)) (fun z => by rw [z] at hq; exact hq rfl) (fun z => by obtain ⟨z1, z2 | z2 | z2 | z2⟩ := z <;> (subst z1; subst z2; exact hq rfl))).trans (hp o i hq)
    refine gx_st (L' := [(2, 192), (0, (b : Int))]) (S' := [(2, 192)]) r_192_25 rfl rfl rfl ?_
    refine gx_gf (x := (k : Int)) 0 r_192_26 (rfl) (ty_192 hT) ⟨by decide, rfl, by decide, by decide⟩ rfl (fun z => absurd z (by decide)) (h28) ?_
    refine gx_st (L' := [(2, 192), (0, (b : Int))]) (S' := [(0, 100), (0, (k : Int))]) r_192_29 rfl rfl rfl ?_
    refine gx_ic (P := 100 ≤ (k : Int)) r_192_31 (rfl) (fun h31 => ?_) (fun h31 => ?_)
    · refine gx_st (L' := [(2, 192), (0, (b : Int))]) (S' := [(0, (-1))]) r_192_74 rfl rfl rfl ?_
      have hk21 : k = 100 := by omega
      subst hk21
      exact gx_rt r_192_75 rfl rfl ⟨_, rfl, Or.inl ⟨rfl, hno⟩⟩
    · refine gx_st (L' := [(2, 192), (0, (b : Int))]) (S' := [(2, 192)]) r_192_34 rfl rfl rfl ?_
      have ewk := ew_s (m1 := p) (k := (k : Int)) ew hb5 h27 (fun i => hf 193 i (by omega) (by omega) (by omega)) (fun i i1 i2 => hf 192 i (by omega) (by omega) (by omega)) z27 h28
      have wfk := wbf_s (k := (k : Int)) wf hb5
      have e203 : p 203 = m 203 := funext fun i => hf 203 i (by omega) (by omega) (by omega)
      have wpk := wp_s (k := (k : Int)) wp hb5 (by omega)
      have hS : SB (upw w (48 + 2 * b) (k : Int)) (beginF (upw w (48 + 2 * b) (k : Int)) 0 ((upw w (48 + 2 * b) (k : Int)) 47)) 0 := sb_begin wfk.1 wfk.2 (by decide) (fun z => by have y := wpk.2.2 0 (by decide) z; exact ⟨y.1, y.2.1⟩)
      refine gx_cv (nx := 38) (S2 := []) (y_145 hT pp (wb_u fc wb) ewk wpk (D := fun x y => m 199 (7 * x + y)) (fun a b _ _ => hf 199 (7 * a + b) (by omega) (by omega) (by omega)) (wyd_u fc hD) (fun h hh => by rw [e203]; exact hAb h hh) (n := n) ((upw_ne (by omega)).trans hn) hn12 hS (fun t ht _ => by omega)) r_192_35 rfl rfl rfl rfl rfl (rcv_v rfl (ty_192 hT) (by decide) rfl (by decide)) rfl (by decide) rfl (fun n35 q35 => ?_)
      obtain ⟨rp, fg⟩ := q35
      rw [show (upw w (48 + 2 * b) (k : Int)) 47 = w 47 from upw_ne (by omega), e203] at rp
      have h28b : n35 192 28 = (k : Int) := (fg 192 28 (by omega) (by omega) (by omega)).trans h28
      have hn1 : n35 193 1 = (n : Int) := (fg 193 1 (by omega) (by omega) (by omega)).trans ((hf 193 1 (by omega) (by omega) (by omega)).trans ((ew.1 1 (by decide) (by decide) (by decide)).trans hn))
      have pn : PinR n35 := pin_g pp fg
      have h5_ := (rp.1 n (Nat.le_refl _)).1.1 5 (by decide) (by decide)
      show GX T 8 192 38 [(2, 192), (0, (b : Int))] [] n35 (RI (fun v m1 => FirstOf 100 (fun k => 1 ≤ k ∧ needP w (fun x y => m 199 (7 * x + y)) (m 203) n b k) v))
      refine gx_st (L' := [(2, 192), (0, (b : Int))]) (S' := [(2, 192)]) r_192_38 rfl rfl rfl ?_
      refine gx_st (L' := [(2, 192), (0, (b : Int))]) (S' := [(2, 192), (2, 192)]) r_192_39 rfl rfl rfl ?_
      refine gx_gf (x := 193) 2 r_192_40 (rfl) (ty_192 hT) ⟨by decide, rfl, by decide, by decide⟩ rfl (fun _ => by omega) (pin_at pn (t := 193) rfl (by decide)) ?_
      refine gx_st (L' := [(2, 192), (0, (b : Int))]) (S' := [(0, 1), (2, 193), (2, 192)]) r_192_43 rfl rfl rfl ?_
      refine gx_ia (n := 1) (x := (n : Int)) r_192_44 (rfl) (ty_193 hT) (rfl) ⟨rfl, by decide⟩ (hn1) ?_
      refine gx_st (L' := [(2, 192), (0, (b : Int))]) (S' := [(0, 5), (0, (n : Int)), (2, 192)]) r_192_45 rfl rfl rfl ?_
      refine gx_ci (nx := 49) (S2 := []) (l_131 hT pn (h := n) (k := 5) (i := 16 * n + 5) rfl (by omega)) r_192_46 rfl rfl rfl rfl rfl (rcv_v rfl (ty_192 hT) (by decide) rfl (by decide)) rfl (by decide) rfl (fun x46 n46 q46 => ?_)
      obtain ⟨e_x46, z_x46⟩ := q46
      obtain rfl := z_x46.symm
      rw [e_x46, h5_]
      show GX T 8 192 49 [(2, 192), (0, (b : Int))] [(0, (runF (upw w (48 + 2 * b) (k : Int)) (fun x y => m 199 (7 * x + y)) (m 203) (beginF (upw w (48 + 2 * b) (k : Int)) 0 (w 47)) n 5))] n35 (RI (fun v m1 => FirstOf 100 (fun k => 1 ≤ k ∧ needP w (fun x y => m 199 (7 * x + y)) (m 203) n b k) v))
      refine gx_st (L' := [(2, 192), (0, (b : Int))]) (S' := [(0, (b : Int)), (0, (runF (upw w (48 + 2 * b) (k : Int)) (fun x y => m 199 (7 * x + y)) (m 203) (beginF (upw w (48 + 2 * b) (k : Int)) 0 (w 47)) n 5))]) r_192_49 rfl rfl rfl ?_
      refine gx_ci (nx := 53) (S2 := []) (x_87 ((runF (upw w (48 + 2 * b) (k : Int)) (fun x y => m 199 (7 * x + y)) (m 203) (beginF (upw w (48 + 2 * b) (k : Int)) 0 (w 47)) n 5)) (b : Int)) r_192_50 rfl rfl rfl rfl rfl rfl rfl (by decide) rfl (fun x50 n50 q50 => ?_)
      obtain rfl := q50.1.symm
      obtain rfl := q50.2.symm
      show GX T 8 192 53 [(2, 192), (0, (b : Int))] [(0, (iand (ishr ((runF (upw w (48 + 2 * b) (k : Int)) (fun x y => m 199 (7 * x + y)) (m 203) (beginF (upw w (48 + 2 * b) (k : Int)) 0 (w 47)) n 5)) (b : Int)) 1))] n35 (RI (fun v m1 => FirstOf 100 (fun k => 1 ≤ k ∧ needP w (fun x y => m 199 (7 * x + y)) (m 203) n b k) v))
      refine gx_i0 (P := ¬ (iand (ishr ((runF (upw w (48 + 2 * b) (k : Int)) (fun x y => m 199 (7 * x + y)) (m 203) (beginF (upw w (48 + 2 * b) (k : Int)) 0 (w 47)) n 5)) (b : Int)) 1) = 0) r_192_53 (rfl) (fun h53 => ?_) (fun h53 => ?_)
      · refine gx_st (L' := [(2, 192), (0, (b : Int))]) (S' := [(2, 192)]) r_192_61 rfl rfl rfl ?_
        refine gx_st (L' := [(2, 192), (0, (b : Int))]) (S' := [(2, 192), (2, 192)]) r_192_62 rfl rfl rfl ?_
        refine gx_gf (x := (k : Int)) 0 r_192_63 (rfl) (ty_192 hT) ⟨by decide, rfl, by decide, by decide⟩ rfl (fun z => absurd z (by decide)) (h28b) ?_
        refine gx_st (L' := [(2, 192), (0, (b : Int))]) (S' := [(0, 1), (0, (k : Int)), (2, 192)]) r_192_66 rfl rfl rfl ?_
        refine gx_ar (L' := [(2, 192), (0, (b : Int))]) (S' := [(2, 192)]) (t := 0) (e := w32 ((k : Int) + 1)) (z := (k : Int) + 1) r_192_67 rfl rfl rfl (w32_eq (by omega) (by omega) (by omega)) ?_
        obtain ⟨m1, e_m1⟩ : ∃ z, z = nu_up n35 192 28 ((k : Int) + 1) := ⟨_, rfl⟩
        refine gx_pf (x := (k : Int) + 1) 0 r_192_68 (rfl) (ty_192 hT) ⟨by decide, rfl, by decide, by decide⟩ rfl (fun z => absurd z (by decide)) (fun z => absurd z (by decide)) e_m1.symm ?_
        refine gx_st (L' := [(2, 192), (0, (b : Int))]) (S' := []) r_192_71 rfl rfl rfl ?_
        exact ih (k + 1) m1 (by omega) (by omega) (by omega) (by rw [e_m1, nu_ne (by decide)]; exact (fg 192 27 (by omega) (by omega) (by omega)).trans z27) (by rw [e_m1, nu_at]; omega) (fun q i x y z => by rw [e_m1, nu_x (by omega)]; exact (fg q i x y (by omega)).trans (hf q i x y z)) (first_s (n := 100) hno (fun z => h53 z))
      · have h53 := Decidable.not_not.mp h53
        refine gx_st (L' := [(2, 192), (0, (b : Int))]) (S' := [(2, 192)]) r_192_56 rfl rfl rfl ?_
        refine gx_gf (x := (k : Int)) 0 r_192_57 (rfl) (ty_192 hT) ⟨by decide, rfl, by decide, by decide⟩ rfl (fun z => absurd z (by decide)) (h28b) ?_
        exact gx_rt r_192_60 rfl rfl ⟨_, rfl, Or.inr ⟨k, by omega, ⟨hk1, h53⟩, rfl, hno⟩⟩
theorem nr3_l (hT : TT T) (hp : PinR m) {w : Wd} (wb : WB w) (wp : WP w) (wf : WBf w) (ew : EW (-1) m w) (hD : WyD w (fun x y => m 199 (7 * x + y))) (h27 : m 192 27 = -1) (hAb : ∀ h : Nat, h < 12 → 0 ≤ m 203 h ∧ m 203 h ≤ 16) {n b : Nat} (hn : w 1 = (n : Int)) (hn12 : n ≤ 12) (hb5 : b < 5) (p : Mm) (z27 : p 192 27 = (b : Int)) (h28 : p 192 28 = ((1 : Nat) : Int)) (hf : ∀ q i : Nat, ¬ (200 ≤ q ∧ q ≤ 202) → ¬ q = 204 → ¬ (q = 192 ∧ (i = 21 ∨ i = 22 ∨ i = 27 ∨ i = 28)) → p q i = m q i) : GX T 8 192 25 [(2, 192), (0, (b : Int))] [] p (RI (fun v m1 => FirstOf 100 (fun k => 1 ≤ k ∧ needP w (fun x y => m 199 (7 * x + y)) (m 203) n b k) v)) := nr_l hT hp wb wp wf ew hD h27 hAb hn hn12 hb5 100 1 p (by omega) (by omega) (by omega) z27 h28 hf (fun j hj z => by omega)
theorem y_192 (hT : TT T) (hp : PinR m) (hm : Gam m) (hx : Ext m) (wb : WB (pw (m 193))) (wp : WP (pw (m 193))) {n : Nat} (hn : m 193 1 = (n : Int)) (a : Int) : GX T 9 192 0 [(2, 192), (0, a)] [] m (RI (fun v m1 => (¬ (0 ≤ a ∧ a < m 193 7) → v = -2) ∧ ∀ b : Nat, a = (b : Int) → (0 ≤ a ∧ a < m 193 7) → ∃ (q : Mm) (D : Nat → Nat → Int), WyD (m 193) D ∧ ActA q (m 193) ∧ FirstOf 100 (fun k => 1 ≤ k ∧ needP (pw (m 193)) D (q 203) n b k) v)) := by
  refine gx_st (L' := [(2, 192), (0, a)]) (S' := [(2, 192)]) r_192_0 rfl rfl rfl ?_
  refine gx_cv (nx := 4) (S2 := []) (y_143 hT hp hm hx) r_192_1 rfl rfl rfl rfl rfl (rcv_v rfl (ty_192 hT) (by decide) rfl (by decide)) rfl (by decide) rfl (fun n1 q1 => ?_)
  obtain ⟨⟨a1, a2⟩, gm1, gx1, f1, fs1⟩ := q1
  have hp1 : PinR n1 := PinR_fr f1 (by decide) hp
  have e193 : n1 193 = m 193 := funext (Fr_cell (o := 193) f1 (by decide) (by decide))
  show GX T 9 192 4 [(2, 192), (0, a)] [] n1 (RI (fun v m1 => (¬ (0 ≤ a ∧ a < m 193 7) → v = -2) ∧ ∀ b : Nat, a = (b : Int) → (0 ≤ a ∧ a < m 193 7) → ∃ (q : Mm) (D : Nat → Nat → Int), WyD (m 193) D ∧ ActA q (m 193) ∧ FirstOf 100 (fun k => 1 ≤ k ∧ needP (pw (m 193)) D (q 203) n b k) v))
  refine gx_st (L' := [(2, 192), (0, a)]) (S' := [(2, 192)]) r_192_4 rfl rfl rfl ?_
  refine gx_st (L' := [(2, 192), (0, a)]) (S' := [(0, a), (2, 192)]) r_192_5 rfl rfl rfl ?_
  refine gx_ci (nx := 9) (S2 := []) (x_96 hT gm1 a) r_192_6 rfl rfl rfl rfl rfl (rcv_v rfl (ty_192 hT) (by decide) rfl (by decide)) rfl (by decide) rfl (fun x6 n6 q6 => ?_)
  obtain ⟨e_x6, z_x6⟩ := q6
  obtain rfl := z_x6.symm
  rw [e_x6, e193]
  have b7 := gb_193_7 hm
  show GX T 9 192 9 [(2, 192), (0, a)] [(0, (if 0 ≤ a ∧ a ≤ m 193 7 - 1 then 1 else 0))] n1 (RI (fun v m1 => (¬ (0 ≤ a ∧ a < m 193 7) → v = -2) ∧ ∀ b : Nat, a = (b : Int) → (0 ≤ a ∧ a < m 193 7) → ∃ (q : Mm) (D : Nat → Nat → Int), WyD (m 193) D ∧ ActA q (m 193) ∧ FirstOf 100 (fun k => 1 ≤ k ∧ needP (pw (m 193)) D (q 203) n b k) v))
  refine gx_i0 (P := 0 ≤ a ∧ a ≤ m 193 7 - 1) r_192_9 (b01_ne) (fun h9 => ?_) (fun h9 => ?_)
  · obtain ⟨ii, h_ii⟩ : ∃ i : Nat, a = (i : Int) := ⟨a.toNat, by omega⟩
    rw [h_ii]
    refine gx_st (L' := [(2, 192), (0, (ii : Int))]) (S' := [(2, 192)]) r_192_15 rfl rfl rfl ?_
    refine gx_st (L' := [(2, 192), (0, (ii : Int))]) (S' := [(0, (ii : Int)), (2, 192)]) r_192_16 rfl rfl rfl ?_
    obtain ⟨m1, e_m1⟩ : ∃ z, z = nu_up n1 192 27 (ii : Int) := ⟨_, rfl⟩
    refine gx_pf (x := (ii : Int)) 0 r_192_17 (rfl) (ty_192 hT) ⟨by decide, rfl, by decide, by decide⟩ rfl (fun z => absurd z (by decide)) (fun z => absurd z (by decide)) e_m1.symm ?_
    refine gx_st (L' := [(2, 192), (0, (ii : Int))]) (S' := [(2, 192)]) r_192_20 rfl rfl rfl ?_
    refine gx_st (L' := [(2, 192), (0, (ii : Int))]) (S' := [(0, 1), (2, 192)]) r_192_21 rfl rfl rfl ?_
    obtain ⟨m2, e_m2⟩ : ∃ z, z = nu_up m1 192 28 1 := ⟨_, rfl⟩
    refine gx_pf (x := 1) 0 r_192_22 (rfl) (ty_192 hT) ⟨by decide, rfl, by decide, by decide⟩ rfl (fun z => absurd z (by decide)) (fun z => absurd z (by decide)) e_m2.symm ?_
    have hw1 : WyD (pw (m 193)) (fun x y => n1 199 (7 * x + y)) := by
      rw [wyD_pw, ← e193]; exact fs1
    have ea := ew_as gm1 a1
    rw [e193] at ea
    have b1 := gb_193_1 hm
    refine gx_imp (gx_d (nr3_l hT hp1 wb wp (wbf_pw hm) ea hw1 a1.2.2.2.2 (acts_in hx.1 a2) (n := n) (b := ii) (by rw [pw_at (by decide) (by decide)]; exact hn) (by omega) (by omega) m2 (by rw [e_m2, nu_ne (by decide), e_m1, nu_at]) (by show m2 192 28 = 1; rw [e_m2, nu_at]) (fun q i _ _ z => by rw [e_m2, nu_x (by omega), e_m1, nu_x (by omega)])) (by decide)) (fun v m1 ⟨x, e, q⟩ => ⟨x, e, fun z => absurd z (by omega), fun b e1 z => ⟨_, _, wyD_pw.mp hw1, a2, by rw [show b = ii by omega]; exact q⟩⟩)
  · refine gx_st (L' := [(2, 192), (0, a)]) (S' := [(0, (-2))]) r_192_12 rfl rfl rfl ?_
    exact gx_rt r_192_14 rfl rfl ⟨_, rfl, fun _ => rfl, fun b e z => (by exfalso; omega)⟩
end DROPS
theorem q_37 {m m1 : Mm} {v1 v2 : Int} {n : Nat} (r : WX m) (e : m1 193 = m 193) (h1 : (¬ 0 < m 4 0 → v1 = -2) ∧ ∀ D : {D : Nat → Nat → Int // WyD (m 193) D}, 0 < m 4 0 → FirstOf 21 (fun k => 1 ≤ k ∧ dropP (pw (m 193)) D.1 n k) v1) (h2 : (¬ 0 < m1 193 9 → v2 = -2) ∧ (0 < m1 193 9 → ∃ D : Nat → Nat → Int, WyD (m1 193) D ∧ FirstOf 21 (fun k => 1 ≤ k ∧ dropP (pw (m1 193)) D n k) v2)) : v1 = v2 := by
  have e40 : m 4 0 = m 193 9 := r.1.1.1
  rw [e] at h2
  by_cases c : 0 < m 4 0
  · obtain ⟨D, hD, f⟩ := h2.2 (by omega)
    exact FirstOf_eq (h1.2 ⟨D, hD⟩ c) f (fun i _ => Iff.rfl)
  · rw [h1.1 c, h2.1 (by omega)]
theorem need_cA {w : Wd} {D : Nat → Nat → Int} {A B : Nat → Int} {n b k : Nat} (e : ∀ h : Nat, h < n → A h = B h) : needP w D A n b k ↔ needP w D B n b k := by
  unfold needP
  rw [run_cA n e]
theorem q_36 {m m1 : Mm} {a v1 v2 : Int} {n : Nat} (hm : Gam m) (r : WX m) (hn : m 193 1 = (n : Int)) (e : m1 193 = m 193) (h1 : (¬ (0 ≤ a ∧ a < m 4 8) → v1 = -2) ∧ ∀ D : {D : Nat → Nat → Int // WyD (m 193) D}, ∀ b : Nat, a = (b : Int) → (0 ≤ a ∧ a < m 4 8) → FirstOf 100 (fun k => 1 ≤ k ∧ needP (pw (m 193)) D.1 (m 23) n b k) v1) (h2 : (¬ (0 ≤ a ∧ a < m1 193 7) → v2 = -2) ∧ ∀ b : Nat, a = (b : Int) → (0 ≤ a ∧ a < m1 193 7) → ∃ (q : Mm) (D : Nat → Nat → Int), WyD (m1 193) D ∧ ActA q (m1 193) ∧ FirstOf 100 (fun k => 1 ≤ k ∧ needP (pw (m1 193)) D (q 203) n b k) v2) : v1 = v2 := by
  have e48 : m 4 8 = m 193 7 := r.1.1.2.2.2.2.2.2.2.2.1
  have b1 := gb_193_1 hm
  rw [e] at h2
  by_cases c : 0 ≤ a ∧ a < m 4 8
  · obtain ⟨b, hb⟩ : ∃ i : Nat, a = (i : Int) := ⟨a.toNat, by omega⟩
    obtain ⟨q, D, hD, aa, f⟩ := h2.2 b hb (by omega)
    have ea := acts_eq r.2.1 aa
    exact FirstOf_eq (h1.2 ⟨D, hD⟩ b hb c) f (fun i _ => and_congr_right (fun _ => need_cA (fun h hh => (ea h (by omega)).symm)))
  · rw [h1.1 c, h2.1 (by omega)]
