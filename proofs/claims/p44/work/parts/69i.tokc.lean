/-! the parser of the class exactly: tokens -/
theorem r_311_0 : row 311 0 = some (.iload_n 1, 1, 0, 0, 0, 0) := rfl
theorem r_311_1 : row 311 1 = some (.ifCond .lt 29, 4, 30, 0, 0, 0) := rfl
theorem r_311_4 : row 311 4 = some (.iload_n 1, 5, 0, 0, 0, 0) := rfl
theorem r_311_5 : row 311 5 = some (.aload_n 0, 6, 0, 0, 0, 0) := rfl
theorem r_311_6 : row 311 6 = some (.getfield 15, 9, 8, 1, 0, 1035) := rfl
theorem r_311_9 : row 311 9 = some (.if_icmp .ge 21, 12, 30, 0, 0, 0) := rfl
theorem r_311_12 : row 311 12 = some (.iload_n 1, 13, 0, 0, 0, 0) := rfl
theorem r_311_13 : row 311 13 = some (.aload_n 0, 14, 0, 0, 0, 0) := rfl
theorem r_311_14 : row 311 14 = some (.getfield 9, 17, 8, 0, 2, 1034) := rfl
theorem r_311_17 : row 311 17 = some (.arraylength, 18, 0, 0, 0, 0) := rfl
theorem r_311_18 : row 311 18 = some (.if_icmp .ge 12, 21, 30, 0, 0, 0) := rfl
theorem r_311_21 : row 311 21 = some (.aload_n 0, 22, 0, 0, 0, 0) := rfl
theorem r_311_22 : row 311 22 = some (.getfield 9, 25, 8, 0, 2, 1034) := rfl
theorem r_311_25 : row 311 25 = some (.iload_n 1, 26, 0, 0, 0, 0) := rfl
theorem r_311_26 : row 311 26 = some (.iaload, 27, 0, 0, 0, 0) := rfl
theorem r_311_27 : row 311 27 = some (.goto 4, 30, 31, 0, 0, 0) := rfl
theorem r_311_30 : row 311 30 = some (.iconst (-1), 31, (-1), 0, 0, 0) := rfl
theorem r_311_31 : row 311 31 = some (.ireturn, 32, 0, 0, 0, 0) := rfl
theorem r_313_0 : row 313 0 = some (.iload_n 0, 1, 0, 0, 0, 0) := rfl
theorem r_313_1 : row 313 1 = some (.iconst (-1), 2, (-1), 0, 0, 0) := rfl
theorem r_313_2 : row 313 2 = some (.if_icmp .eq 15, 5, 17, 0, 0, 0) := rfl
theorem r_313_5 : row 313 5 = some (.iload_n 0, 6, 0, 0, 0, 0) := rfl
theorem r_313_6 : row 313 6 = some (.bipush 32, 8, 32, 0, 0, 0) := rfl
theorem r_313_8 : row 313 8 = some (.if_icmp .eq 9, 11, 17, 0, 0, 0) := rfl
theorem r_313_11 : row 313 11 = some (.iload_n 0, 12, 0, 0, 0, 0) := rfl
theorem r_313_12 : row 313 12 = some (.bipush 10, 14, 10, 0, 0, 0) := rfl
theorem r_313_14 : row 313 14 = some (.if_icmp .ne 5, 17, 19, 0, 0, 0) := rfl
theorem r_313_17 : row 313 17 = some (.iconst 0, 18, 0, 0, 0, 0) := rfl
theorem r_313_18 : row 313 18 = some (.ireturn, 19, 0, 0, 0, 0) := rfl
theorem r_313_19 : row 313 19 = some (.iload_n 0, 20, 0, 0, 0, 0) := rfl
theorem r_313_20 : row 313 20 = some (.bipush 97, 22, 97, 0, 0, 0) := rfl
theorem r_313_22 : row 313 22 = some (.if_icmp .lt 11, 25, 33, 0, 0, 0) := rfl
theorem r_313_25 : row 313 25 = some (.iload_n 0, 26, 0, 0, 0, 0) := rfl
theorem r_313_26 : row 313 26 = some (.bipush 122, 28, 122, 0, 0, 0) := rfl
theorem r_313_28 : row 313 28 = some (.if_icmp .gt 5, 31, 33, 0, 0, 0) := rfl
theorem r_313_31 : row 313 31 = some (.iconst 1, 32, 1, 0, 0, 0) := rfl
theorem r_313_32 : row 313 32 = some (.ireturn, 33, 0, 0, 0, 0) := rfl
theorem r_313_33 : row 313 33 = some (.iload_n 0, 34, 0, 0, 0, 0) := rfl
theorem r_313_34 : row 313 34 = some (.bipush 48, 36, 48, 0, 0, 0) := rfl
theorem r_313_36 : row 313 36 = some (.if_icmp .lt 11, 39, 47, 0, 0, 0) := rfl
theorem r_313_39 : row 313 39 = some (.iload_n 0, 40, 0, 0, 0, 0) := rfl
theorem r_313_40 : row 313 40 = some (.bipush 57, 42, 57, 0, 0, 0) := rfl
theorem r_313_42 : row 313 42 = some (.if_icmp .gt 5, 45, 47, 0, 0, 0) := rfl
theorem r_313_45 : row 313 45 = some (.iconst 2, 46, 2, 0, 0, 0) := rfl
theorem r_313_46 : row 313 46 = some (.ireturn, 47, 0, 0, 0, 0) := rfl
theorem r_313_47 : row 313 47 = some (.iload_n 0, 48, 0, 0, 0, 0) := rfl
theorem r_313_48 : row 313 48 = some (.bipush 59, 50, 59, 0, 0, 0) := rfl
theorem r_313_50 : row 313 50 = some (.if_icmp .ne 7, 53, 57, 0, 0, 0) := rfl
theorem r_313_53 : row 313 53 = some (.iconst 3, 54, 3, 0, 0, 0) := rfl
theorem r_313_54 : row 313 54 = some (.goto 4, 57, 58, 0, 0, 0) := rfl
theorem r_313_57 : row 313 57 = some (.iconst 4, 58, 4, 0, 0, 0) := rfl
theorem r_313_58 : row 313 58 = some (.ireturn, 59, 0, 0, 0, 0) := rfl
theorem r_314_0 : row 314 0 = some (.aload_n 0, 1, 0, 0, 0, 0) := rfl
theorem r_314_1 : row 314 1 = some (.getfield 25, 4, 8, 4, 0, 1041) := rfl
theorem r_314_4 : row 314 4 = some (.iconst 1, 5, 1, 0, 0, 0) := rfl
theorem r_314_5 : row 314 5 = some (.if_icmp .ne 19, 8, 24, 0, 0, 0) := rfl
theorem r_314_8 : row 314 8 = some (.aload_n 0, 9, 0, 0, 0, 0) := rfl
theorem r_314_9 : row 314 9 = some (.getfield 31, 12, 8, 6, 0, 1043) := rfl
theorem r_314_12 : row 314 12 = some (.aload_n 0, 13, 0, 0, 0, 0) := rfl
theorem r_314_13 : row 314 13 = some (.getfield 28, 16, 8, 5, 0, 1042) := rfl
theorem r_314_16 : row 314 16 = some (.isub, 17, 0, 0, 0, 0) := rfl
theorem r_314_17 : row 314 17 = some (.aload_n 1, 18, 0, 0, 0, 0) := rfl
theorem r_314_18 : row 314 18 = some (.invokevirtual 182, 21, (-6), 0, 0, 3025) := rfl
theorem r_314_21 : row 314 21 = some (.if_icmp .eq 5, 24, 26, 0, 0, 0) := rfl
theorem r_314_24 : row 314 24 = some (.iconst 0, 25, 0, 0, 0, 0) := rfl
theorem r_314_25 : row 314 25 = some (.ireturn, 26, 0, 0, 0, 0) := rfl
theorem r_314_26 : row 314 26 = some (.iconst 0, 27, 0, 0, 0, 0) := rfl
theorem r_314_27 : row 314 27 = some (.istore_n 2, 28, 0, 0, 0, 0) := rfl
theorem r_314_28 : row 314 28 = some (.iload_n 2, 29, 0, 0, 0, 0) := rfl
theorem r_314_29 : row 314 29 = some (.aload_n 1, 30, 0, 0, 0, 0) := rfl
theorem r_314_30 : row 314 30 = some (.invokevirtual 182, 33, (-6), 0, 0, 3025) := rfl
theorem r_314_33 : row 314 33 = some (.if_icmp .ge 29, 36, 62, 0, 0, 0) := rfl
theorem r_314_36 : row 314 36 = some (.aload_n 0, 37, 0, 0, 0, 0) := rfl
theorem r_314_37 : row 314 37 = some (.aload_n 0, 38, 0, 0, 0, 0) := rfl
theorem r_314_38 : row 314 38 = some (.getfield 28, 41, 8, 5, 0, 1042) := rfl
theorem r_314_41 : row 314 41 = some (.iload_n 2, 42, 0, 0, 0, 0) := rfl
theorem r_314_42 : row 314 42 = some (.iadd, 43, 0, 0, 0, 0) := rfl
theorem r_314_43 : row 314 43 = some (.invokevirtual 175, 46, 311, 1, 0, 3001) := rfl
theorem r_314_46 : row 314 46 = some (.aload_n 1, 47, 0, 0, 0, 0) := rfl
theorem r_314_47 : row 314 47 = some (.iload_n 2, 48, 0, 0, 0, 0) := rfl
theorem r_314_48 : row 314 48 = some (.invokevirtual 187, 51, (-7), 1, 0, 3035) := rfl
theorem r_314_51 : row 314 51 = some (.if_icmp .eq 5, 54, 56, 0, 0, 0) := rfl
theorem r_314_54 : row 314 54 = some (.iconst 0, 55, 0, 0, 0, 0) := rfl
theorem r_314_55 : row 314 55 = some (.ireturn, 56, 0, 0, 0, 0) := rfl
theorem r_314_56 : row 314 56 = some (.iinc 2 1, 59, 0, 0, 0, 0) := rfl
theorem r_314_59 : row 314 59 = some (.goto (-31), 62, 28, 0, 0, 0) := rfl
theorem r_314_62 : row 314 62 = some (.iconst 1, 63, 1, 0, 0, 0) := rfl
theorem r_314_63 : row 314 63 = some (.ireturn, 64, 0, 0, 0, 0) := rfl
theorem r_315_0 : row 315 0 = some (.iconst 0, 1, 0, 0, 0, 0) := rfl
theorem r_315_1 : row 315 1 = some (.istore_n 1, 2, 0, 0, 0, 0) := rfl
theorem r_315_2 : row 315 2 = some (.aload_n 0, 3, 0, 0, 0, 0) := rfl
theorem r_315_3 : row 315 3 = some (.getfield 28, 6, 8, 5, 0, 1042) := rfl
theorem r_315_6 : row 315 6 = some (.istore_n 2, 7, 0, 0, 0, 0) := rfl
theorem r_315_7 : row 315 7 = some (.iload_n 2, 8, 0, 0, 0, 0) := rfl
theorem r_315_8 : row 315 8 = some (.aload_n 0, 9, 0, 0, 0, 0) := rfl
theorem r_315_9 : row 315 9 = some (.getfield 31, 12, 8, 6, 0, 1043) := rfl
theorem r_315_12 : row 315 12 = some (.if_icmp .ge 28, 15, 40, 0, 0, 0) := rfl
theorem r_315_15 : row 315 15 = some (.iload_n 1, 16, 0, 0, 0, 0) := rfl
theorem r_315_16 : row 315 16 = some (.bipush 10, 18, 10, 0, 0, 0) := rfl
theorem r_315_18 : row 315 18 = some (.imul, 19, 0, 0, 0, 0) := rfl
theorem r_315_19 : row 315 19 = some (.aload_n 0, 20, 0, 0, 0, 0) := rfl
theorem r_315_20 : row 315 20 = some (.iload_n 2, 21, 0, 0, 0, 0) := rfl
theorem r_315_21 : row 315 21 = some (.invokevirtual 175, 24, 311, 1, 0, 3001) := rfl
theorem r_315_24 : row 315 24 = some (.iadd, 25, 0, 0, 0, 0) := rfl
theorem r_315_25 : row 315 25 = some (.bipush 48, 27, 48, 0, 0, 0) := rfl
theorem r_315_27 : row 315 27 = some (.isub, 28, 0, 0, 0, 0) := rfl
theorem r_315_28 : row 315 28 = some (.ldc 191, 30, 1000000, 0, 0, 3086) := rfl
theorem r_315_30 : row 315 30 = some (.invokestatic 192, 33, (-4), 2, 0, 3087) := rfl
theorem r_315_33 : row 315 33 = some (.istore_n 1, 34, 0, 0, 0, 0) := rfl
theorem r_315_34 : row 315 34 = some (.iinc 2 1, 37, 0, 0, 0, 0) := rfl
theorem r_315_37 : row 315 37 = some (.goto (-30), 40, 7, 0, 0, 0) := rfl
theorem r_315_40 : row 315 40 = some (.iload_n 1, 41, 0, 0, 0, 0) := rfl
theorem r_315_41 : row 315 41 = some (.ireturn, 42, 0, 0, 0, 0) := rfl
def kdB (c : Int) : Int := if c = -1 ∨ c = 32 ∨ c = 10 then 0 else kd c
theorem kdB_n {c : Int} (h : isBl c = false) : kdB c = kd c := by
  have h := of_decide_eq_false h
  unfold kdB
  by_cases e : c = -1
  · rw [if_pos (by omega), e]; rfl
  · rw [if_neg (by omega)]
theorem kdB_1 {c : Int} : kdB c = 1 ↔ 97 ≤ c ∧ c ≤ 122 := by
  unfold kdB
  constructor
  · intro h
    split at h
    · omega
    · exact kd_1 h
  · intro h
    rw [if_neg (by omega)]; exact kd_of1 h.1 h.2
theorem kdB_2 {c : Int} : kdB c = 2 ↔ 48 ≤ c ∧ c ≤ 57 := by
  unfold kdB
  constructor
  · intro h
    split at h
    · omega
    · exact kd_2 h
  · intro h
    rw [if_neg (by omega)]; exact kd_of2 h.1 h.2
theorem kdB_0 {c : Int} : kdB c = 0 ↔ c = -1 ∨ c = 32 ∨ c = 10 := by
  unfold kdB
  constructor
  · intro h
    split at h
    · assumption
    · have := kd_0.mp h; omega
  · intro h
    rw [if_pos h]
/-- the text that the class holds -/
def CXt (X : Nat → Int) (m : Mm) : Prop := ∃ n : Nat, n ≤ 800 ∧ m 2 1 = (n : Int) ∧ (∀ k : Nat, X k = if k < n then m 3 k else -1) ∧ ∀ k : Nat, k < n → 0 ≤ X k
theorem pin_2 {i : Nat} (h : 4 ≤ i) : pinF 2 i = 0 := by
  unfold pinF
  rw [List.getD_eq_getElem?_getD, List.getElem?_eq_none (show (pinT.getD 2 []).length ≤ i from Nat.le_trans (by decide) h)]
  rfl
def FrN (m0 m : Mm) : Prop := ∀ o i : Nat, ¬ (o = 2 ∧ 4 ≤ i) → m o i = m0 o i
theorem CXt_N {X : Nat → Int} {m0 m : Mm} (h : CXt X m0) (f : FrN m0 m) : CXt X m := by
  obtain ⟨n, h1, h2, h3, h4⟩ := h
  exact ⟨n, h1, by rw [f 2 1 (by omega)]; exact h2, fun k => by rw [f 3 k (by omega)]; exact h3 k, h4⟩
theorem CXt_fr {X : Nat → Int} {W : List Nat} {m0 m : Mm} (h : CXt X m0) (f : Fr W m0 m) (h1 : W.contains 2001 = false) (h2 : W.contains 3999 = false) : CXt X m := by
  obtain ⟨n, a1, a2, a3, a4⟩ := h
  exact ⟨n, a1, by rw [f 2 1 h1]; exact a2, fun k => by rw [f 3 k h2]; exact a3 k, a4⟩
theorem PinR_N {m0 m : Mm} (p : PinR m0) (f : FrN m0 m) : PinR m := fun o i hq => by
  rw [f o i (fun z => hq (by rw [z.1]; exact pin_2 z.2))]
  exact p o i hq
section TOKC
variable {T : List Kd} {X : Nat → Int} {m : Mm}
def CT (X : Nat → Int) (m : Mm) (p : Nat) : Prop := m 2 4 = nK X p ∧ m 2 5 = (nS X p : Int) ∧ m 2 6 = (nE X p : Int)
theorem z_311 (hT : TT T) (hp : PinR m) (hc : CXt X m) (k : Nat) : GX T 0 311 0 [(2, 2), (0, (k : Int))] [] m (RI (fun v m1 => v = X k ∧ m1 = m)) := by
  obtain ⟨n, hn8, h21, hX, hX0⟩ := hc
  refine gx_st (L' := [(2, 2), (0, (k : Int))]) (S' := [(0, (k : Int))]) r_311_0 rfl rfl rfl ?_
  refine gx_i0 (P := (k : Int) < 0) r_311_1 (rfl) (fun h1 => ?_) (fun h1 => ?_)
  · refine gx_st (L' := [(2, 2), (0, (k : Int))]) (S' := [(0, (-1))]) r_311_30 rfl rfl rfl ?_
    exact gx_rt r_311_31 rfl rfl ⟨_, rfl, by rw [hX k, if_neg (by omega)], rfl⟩
  · refine gx_st (L' := [(2, 2), (0, (k : Int))]) (S' := [(0, (k : Int))]) r_311_4 rfl rfl rfl ?_
    refine gx_st (L' := [(2, 2), (0, (k : Int))]) (S' := [(2, 2), (0, (k : Int))]) r_311_5 rfl rfl rfl ?_
    refine gx_gf (x := (n : Int)) 0 r_311_6 (rfl) (ty_2 hT) ⟨by decide, rfl, by decide, by decide⟩ rfl (fun z => absurd z (by decide)) (h21) ?_
    refine gx_ic (P := (n : Int) ≤ (k : Int)) r_311_9 (rfl) (fun h9 => ?_) (fun h9 => ?_)
    · refine gx_st (L' := [(2, 2), (0, (k : Int))]) (S' := [(0, (-1))]) r_311_30 rfl rfl rfl ?_
      exact gx_rt r_311_31 rfl rfl ⟨_, rfl, by rw [hX k, if_neg (by omega)], rfl⟩
    · refine gx_st (L' := [(2, 2), (0, (k : Int))]) (S' := [(0, (k : Int))]) r_311_12 rfl rfl rfl ?_
      refine gx_st (L' := [(2, 2), (0, (k : Int))]) (S' := [(2, 2), (0, (k : Int))]) r_311_13 rfl rfl rfl ?_
      refine gx_gf (x := 3) 2 r_311_14 (rfl) (ty_2 hT) ⟨by decide, rfl, by decide, by decide⟩ rfl (fun _ => by omega) (pin_at hp (t := 3) rfl (by decide)) ?_
      refine gx_al r_311_17 (rfl) (ty_3 hT) ⟨by decide, by decide, by decide⟩ ?_
      show GX T 0 311 18 [(2, 2), (0, (k : Int))] [(0, 800), (0, (k : Int))] m (RI (fun v m1 => v = X k ∧ m1 = m))
      refine gx_ic (P := 800 ≤ (k : Int)) r_311_18 (rfl) (fun h18 => ?_) (fun h18 => ?_)
      · refine gx_st (L' := [(2, 2), (0, (k : Int))]) (S' := [(0, (-1))]) r_311_30 rfl rfl rfl ?_
        exact gx_rt r_311_31 rfl rfl ⟨_, rfl, by rw [hX k, if_neg (by omega)], rfl⟩
      · refine gx_st (L' := [(2, 2), (0, (k : Int))]) (S' := [(2, 2)]) r_311_21 rfl rfl rfl ?_
        refine gx_gf (x := 3) 2 r_311_22 (rfl) (ty_2 hT) ⟨by decide, rfl, by decide, by decide⟩ rfl (fun _ => by omega) (pin_at hp (t := 3) rfl (by decide)) ?_
        refine gx_st (L' := [(2, 2), (0, (k : Int))]) (S' := [(0, (k : Int)), (2, 3)]) r_311_25 rfl rfl rfl ?_
        obtain ⟨x26, e_x26⟩ : ∃ z, z = m 3 k := ⟨_, rfl⟩
        refine gx_ia (n := k) (x := x26) r_311_26 (rfl) (ty_3 hT) (by omega) ⟨rfl, by omega⟩ (e_x26.symm) ?_
        refine gx_st (L' := [(2, 2), (0, (k : Int))]) (S' := [(0, x26)]) r_311_27 rfl rfl rfl ?_
        exact gx_rt r_311_31 rfl rfl ⟨_, rfl, by rw [hX k, if_pos (by omega), e_x26], rfl⟩
theorem z_313 (c : Int) : GX T 0 313 0 [(0, c)] [] m (RI (fun v m1 => v = kdB c ∧ m1 = m)) := by
  refine gx_st (L' := [(0, c)]) (S' := [(0, c)]) r_313_0 rfl rfl rfl ?_
  refine gx_st (L' := [(0, c)]) (S' := [(0, (-1)), (0, c)]) r_313_1 rfl rfl rfl ?_
  refine gx_ic (P := c = (-1)) r_313_2 (rfl) (fun h2 => ?_) (fun h2 => ?_)
  · refine gx_st (L' := [(0, c)]) (S' := [(0, 0)]) r_313_17 rfl rfl rfl ?_
    exact gx_rt r_313_18 rfl rfl ⟨_, rfl, (if_pos (by omega)).symm, rfl⟩
  · refine gx_st (L' := [(0, c)]) (S' := [(0, c)]) r_313_5 rfl rfl rfl ?_
    refine gx_st (L' := [(0, c)]) (S' := [(0, 32), (0, c)]) r_313_6 rfl rfl rfl ?_
    refine gx_ic (P := c = 32) r_313_8 (rfl) (fun h8 => ?_) (fun h8 => ?_)
    · refine gx_st (L' := [(0, c)]) (S' := [(0, 0)]) r_313_17 rfl rfl rfl ?_
      exact gx_rt r_313_18 rfl rfl ⟨_, rfl, (if_pos (by omega)).symm, rfl⟩
    · refine gx_st (L' := [(0, c)]) (S' := [(0, c)]) r_313_11 rfl rfl rfl ?_
      refine gx_st (L' := [(0, c)]) (S' := [(0, 10), (0, c)]) r_313_12 rfl rfl rfl ?_
      refine gx_ic (P := ¬ c = 10) r_313_14 (rfl) (fun h14 => ?_) (fun h14 => ?_)
      · refine gx_st (L' := [(0, c)]) (S' := [(0, c)]) r_313_19 rfl rfl rfl ?_
        refine gx_st (L' := [(0, c)]) (S' := [(0, 97), (0, c)]) r_313_20 rfl rfl rfl ?_
        refine gx_ic (P := c < 97) r_313_22 (rfl) (fun h22 => ?_) (fun h22 => ?_)
        · refine gx_st (L' := [(0, c)]) (S' := [(0, c)]) r_313_33 rfl rfl rfl ?_
          refine gx_st (L' := [(0, c)]) (S' := [(0, 48), (0, c)]) r_313_34 rfl rfl rfl ?_
          refine gx_ic (P := c < 48) r_313_36 (rfl) (fun h36 => ?_) (fun h36 => ?_)
          · refine gx_st (L' := [(0, c)]) (S' := [(0, c)]) r_313_47 rfl rfl rfl ?_
            refine gx_st (L' := [(0, c)]) (S' := [(0, 59), (0, c)]) r_313_48 rfl rfl rfl ?_
            refine gx_ic (P := ¬ c = 59) r_313_50 (rfl) (fun h50 => ?_) (fun h50 => ?_)
            · refine gx_st (L' := [(0, c)]) (S' := [(0, 4)]) r_313_57 rfl rfl rfl ?_
              exact gx_rt r_313_58 rfl rfl ⟨_, rfl, ((if_neg (by omega)).trans (kd_of4 (by omega) (by omega) (by omega) (by omega))).symm, rfl⟩
            · have h50 := Decidable.not_not.mp h50
              refine gx_st (L' := [(0, c)]) (S' := [(0, 3)]) r_313_53 rfl rfl rfl ?_
              refine gx_st (L' := [(0, c)]) (S' := [(0, 3)]) r_313_54 rfl rfl rfl ?_
              exact gx_rt r_313_58 rfl rfl ⟨_, rfl, (by rw [show c = 59 by omega]; rfl), rfl⟩
          · refine gx_st (L' := [(0, c)]) (S' := [(0, c)]) r_313_39 rfl rfl rfl ?_
            refine gx_st (L' := [(0, c)]) (S' := [(0, 57), (0, c)]) r_313_40 rfl rfl rfl ?_
            refine gx_ic (P := 57 < c) r_313_42 (rfl) (fun h42 => ?_) (fun h42 => ?_)
            · refine gx_st (L' := [(0, c)]) (S' := [(0, c)]) r_313_47 rfl rfl rfl ?_
              refine gx_st (L' := [(0, c)]) (S' := [(0, 59), (0, c)]) r_313_48 rfl rfl rfl ?_
              refine gx_ic (P := ¬ c = 59) r_313_50 (rfl) (fun h50 => ?_) (fun h50 => ?_)
              · refine gx_st (L' := [(0, c)]) (S' := [(0, 4)]) r_313_57 rfl rfl rfl ?_
                exact gx_rt r_313_58 rfl rfl ⟨_, rfl, ((if_neg (by omega)).trans (kd_of4 (by omega) (by omega) (by omega) (by omega))).symm, rfl⟩
              · have h50 := Decidable.not_not.mp h50
                refine gx_st (L' := [(0, c)]) (S' := [(0, 3)]) r_313_53 rfl rfl rfl ?_
                refine gx_st (L' := [(0, c)]) (S' := [(0, 3)]) r_313_54 rfl rfl rfl ?_
                exact gx_rt r_313_58 rfl rfl ⟨_, rfl, (by rw [show c = 59 by omega]; rfl), rfl⟩
            · refine gx_st (L' := [(0, c)]) (S' := [(0, 2)]) r_313_45 rfl rfl rfl ?_
              exact gx_rt r_313_46 rfl rfl ⟨_, rfl, (kdB_2.mpr (by omega)).symm, rfl⟩
        · refine gx_st (L' := [(0, c)]) (S' := [(0, c)]) r_313_25 rfl rfl rfl ?_
          refine gx_st (L' := [(0, c)]) (S' := [(0, 122), (0, c)]) r_313_26 rfl rfl rfl ?_
          refine gx_ic (P := 122 < c) r_313_28 (rfl) (fun h28 => ?_) (fun h28 => ?_)
          · refine gx_st (L' := [(0, c)]) (S' := [(0, c)]) r_313_33 rfl rfl rfl ?_
            refine gx_st (L' := [(0, c)]) (S' := [(0, 48), (0, c)]) r_313_34 rfl rfl rfl ?_
            refine gx_ic (P := c < 48) r_313_36 (rfl) (fun h36 => ?_) (fun h36 => ?_)
            · refine gx_st (L' := [(0, c)]) (S' := [(0, c)]) r_313_47 rfl rfl rfl ?_
              refine gx_st (L' := [(0, c)]) (S' := [(0, 59), (0, c)]) r_313_48 rfl rfl rfl ?_
              refine gx_ic (P := ¬ c = 59) r_313_50 (rfl) (fun h50 => ?_) (fun h50 => ?_)
              · refine gx_st (L' := [(0, c)]) (S' := [(0, 4)]) r_313_57 rfl rfl rfl ?_
                exact gx_rt r_313_58 rfl rfl ⟨_, rfl, ((if_neg (by omega)).trans (kd_of4 (by omega) (by omega) (by omega) (by omega))).symm, rfl⟩
              · have h50 := Decidable.not_not.mp h50
                refine gx_st (L' := [(0, c)]) (S' := [(0, 3)]) r_313_53 rfl rfl rfl ?_
                refine gx_st (L' := [(0, c)]) (S' := [(0, 3)]) r_313_54 rfl rfl rfl ?_
                exact gx_rt r_313_58 rfl rfl ⟨_, rfl, (by rw [show c = 59 by omega]; rfl), rfl⟩
            · refine gx_st (L' := [(0, c)]) (S' := [(0, c)]) r_313_39 rfl rfl rfl ?_
              refine gx_st (L' := [(0, c)]) (S' := [(0, 57), (0, c)]) r_313_40 rfl rfl rfl ?_
              refine gx_ic (P := 57 < c) r_313_42 (rfl) (fun h42 => ?_) (fun h42 => ?_)
              · refine gx_st (L' := [(0, c)]) (S' := [(0, c)]) r_313_47 rfl rfl rfl ?_
                refine gx_st (L' := [(0, c)]) (S' := [(0, 59), (0, c)]) r_313_48 rfl rfl rfl ?_
                refine gx_ic (P := ¬ c = 59) r_313_50 (rfl) (fun h50 => ?_) (fun h50 => ?_)
                · refine gx_st (L' := [(0, c)]) (S' := [(0, 4)]) r_313_57 rfl rfl rfl ?_
                  exact gx_rt r_313_58 rfl rfl ⟨_, rfl, ((if_neg (by omega)).trans (kd_of4 (by omega) (by omega) (by omega) (by omega))).symm, rfl⟩
                · have h50 := Decidable.not_not.mp h50
                  refine gx_st (L' := [(0, c)]) (S' := [(0, 3)]) r_313_53 rfl rfl rfl ?_
                  refine gx_st (L' := [(0, c)]) (S' := [(0, 3)]) r_313_54 rfl rfl rfl ?_
                  exact gx_rt r_313_58 rfl rfl ⟨_, rfl, (by rw [show c = 59 by omega]; rfl), rfl⟩
              · refine gx_st (L' := [(0, c)]) (S' := [(0, 2)]) r_313_45 rfl rfl rfl ?_
                exact gx_rt r_313_46 rfl rfl ⟨_, rfl, (kdB_2.mpr (by omega)).symm, rfl⟩
          · refine gx_st (L' := [(0, c)]) (S' := [(0, 1)]) r_313_31 rfl rfl rfl ?_
            exact gx_rt r_313_32 rfl rfl ⟨_, rfl, (kdB_1.mpr (by omega)).symm, rfl⟩
      · have h14 := Decidable.not_not.mp h14
        refine gx_st (L' := [(0, c)]) (S' := [(0, 0)]) r_313_17 rfl rfl rfl ?_
        exact gx_rt r_313_18 rfl rfl ⟨_, rfl, (if_pos (by omega)).symm, rfl⟩
theorem nu_2 {m : Mm} {b o i : Nat} {x : Int} (hb : 4 ≤ b) (h : ¬ (o = 2 ∧ 4 ≤ i)) : nu_up m 2 b x o i = m o i := by
  by_cases e : o = 2
  · subst e; exact nu_ne (by omega)
  · exact nu_no e
theorem nu_25 {m : Mm} {o i : Nat} {x : Int} (h : ¬ (o = 2 ∧ 4 ≤ i)) : nu_up m 2 5 x o i = m o i := nu_2 (by decide) h
theorem ntk_a {m0 : Mm} {Q : AV → Mm → Prop} {p : Nat} (hT : TT T) (hp : PinR m0) (hc : CXt X m0) (hx : XOK X) (hout : ∀ m : Mm, FrN m0 m → m 2 5 = (nS X p : Int) → GX T 2 312 54 [(2, 2), (9, 0)] [] m Q) : ∀ (N a : Nat) (m : Mm), 801 - a < N → FrN m0 m → m 2 5 = (a : Int) → scn isBl X a = nS X p → GX T 2 312 16 [(2, 2), (9, 0)] [] m Q := by
  intro N
  induction N with
  | zero => intro a m hN; exact absurd hN (Nat.not_lt_zero _)
  | succ N ih =>
    intro a m hN hf ha h0
    have hcm := CXt_N hc hf
    have hpm := PinR_N hp hf
    obtain ⟨n, hn8, h21, hX, hX0⟩ := hcm
    have hcm := CXt_N hc hf
    refine gx_st (L' := [(2, 2), (9, 0)]) (S' := [(2, 2)]) r_312_16 rfl rfl rfl ?_
    refine gx_gf (x := (a : Int)) 0 r_312_17 (rfl) (ty_2 hT) ⟨by decide, rfl, by decide, by decide⟩ rfl (fun z => absurd z (by decide)) (ha) ?_
    refine gx_st (L' := [(2, 2), (9, 0)]) (S' := [(2, 2), (0, (a : Int))]) r_312_20 rfl rfl rfl ?_
    refine gx_gf (x := (n : Int)) 0 r_312_21 (rfl) (ty_2 hT) ⟨by decide, rfl, by decide, by decide⟩ rfl (fun z => absurd z (by decide)) (h21) ?_
    refine gx_ic (P := (n : Int) ≤ (a : Int)) r_312_24 (rfl) (fun h24 => ?_) (fun h24 => ?_)
    · have sn_ : nS X p = a := h0.symm.trans (scn_n (decide_eq_false (by rw [hX a, if_neg (by omega)]; decide)))
      exact hout m hf (by rw [sn_]; exact ha)
    · refine gx_st (L' := [(2, 2), (9, 0)]) (S' := [(2, 2)]) r_312_27 rfl rfl rfl ?_
      refine gx_st (L' := [(2, 2), (9, 0)]) (S' := [(2, 2), (2, 2)]) r_312_28 rfl rfl rfl ?_
      refine gx_gf (x := (a : Int)) 0 r_312_29 (rfl) (ty_2 hT) ⟨by decide, rfl, by decide, by decide⟩ rfl (fun z => absurd z (by decide)) (ha) ?_
      refine gx_ci (nx := 35) (S2 := []) (z_311 hT hpm hcm a) r_312_32 rfl rfl rfl rfl rfl (rcv_v rfl (ty_2 hT) (by decide) rfl (by decide)) rfl (by decide) rfl (fun x32 n32 q32 => ?_)
      obtain rfl := q32.1.symm
      obtain rfl := q32.2.symm
      show GX T 2 312 35 [(2, 2), (9, 0)] [(0, (X a))] m Q
      refine gx_ci (nx := 38) (S2 := []) (z_313 (X a)) r_312_35 rfl rfl rfl rfl rfl rfl rfl (by decide) rfl (fun x35 n35 q35 => ?_)
      obtain rfl := q35.1.symm
      obtain rfl := q35.2.symm
      show GX T 2 312 38 [(2, 2), (9, 0)] [(0, (kdB (X a)))] m Q
      refine gx_i0 (P := ¬ (kdB (X a)) = 0) r_312_38 (rfl) (fun h38 => ?_) (fun h38 => ?_)
      · have sn_ : nS X p = a := h0.symm.trans (scn_n (decide_eq_false (by exact fun z => h38 (kdB_0.mpr (Or.inr z)))))
        exact hout m hf (by rw [sn_]; exact ha)
      · have h38 := Decidable.not_not.mp h38
        have bk_ := kdB_0.mp h38
        have b0_ := hX0 a (by omega)
        have sy_ : scn isBl X (a + 1) = nS X p := (scn_y (decide_eq_true (by omega)) (by omega)).symm.trans h0
        refine gx_st (L' := [(2, 2), (9, 0)]) (S' := [(2, 2)]) r_312_41 rfl rfl rfl ?_
        refine gx_st (L' := [(2, 2), (9, 0)]) (S' := [(2, 2), (2, 2)]) r_312_42 rfl rfl rfl ?_
        refine gx_gf (x := (a : Int)) 0 r_312_43 (rfl) (ty_2 hT) ⟨by decide, rfl, by decide, by decide⟩ rfl (fun z => absurd z (by decide)) (ha) ?_
        refine gx_st (L' := [(2, 2), (9, 0)]) (S' := [(0, 1), (0, (a : Int)), (2, 2)]) r_312_46 rfl rfl rfl ?_
        refine gx_ar (L' := [(2, 2), (9, 0)]) (S' := [(2, 2)]) (t := 0) (e := w32 ((a : Int) + 1)) (z := (a : Int) + 1) r_312_47 rfl rfl rfl (w32_eq (by omega) (by omega) (by omega)) ?_
        obtain ⟨m1, e_m1⟩ : ∃ z, z = nu_up m 2 5 ((a : Int) + 1) := ⟨_, rfl⟩
        refine gx_pf (x := (a : Int) + 1) 0 r_312_48 (rfl) (ty_2 hT) ⟨by decide, rfl, by decide, by decide⟩ rfl (fun z => absurd z (by decide)) (fun z => absurd z (by decide)) e_m1.symm ?_
        refine gx_st (L' := [(2, 2), (9, 0)]) (S' := []) r_312_51 rfl rfl rfl ?_
        exact ih (a + 1) m1 (by omega) (fun o i hi => by rw [e_m1, show nu_up m 2 5 ((a : Int) + 1) o i = m o i from nu_25 hi]; exact hf o i hi) (by rw [e_m1, nu_at]; rfl) sy_
theorem ntk_b {m0 : Mm} {Q : AV → Mm → Prop} {P : Int → Bool} {K : Int} {s e : Nat} (hT : TT T) (hp : PinR m0) (hc : CXt X m0) (hx : XOK X) (hP : ∀ c, P c = true ↔ kdB c = K) (hP1 : P (-1) = false) (hQ : ∀ m : Mm, FrN m0 m → m 2 4 = K → m 2 5 = (s : Int) → m 2 6 = (e : Int) → Q (9, 0) m) : ∀ (N b : Nat) (m : Mm), 801 - b < N → FrN m0 m → m 2 4 = K → m 2 5 = (s : Int) → m 2 6 = (b : Int) → scn P X b = e → GX T 2 312 99 [(2, 2), (0, 1)] [] m Q := by
  intro N
  induction N with
  | zero => intro b m hN; exact absurd hN (Nat.not_lt_zero _)
  | succ N ih =>
    intro b m hN hf h4 h5 hb hs
    have hcm := CXt_N hc hf
    have hpm := PinR_N hp hf
    obtain ⟨n, hn8, h21, hX, hX0⟩ := hcm
    have hcm := CXt_N hc hf
    refine gx_st (L' := [(2, 2), (0, 1)]) (S' := [(2, 2)]) r_312_99 rfl rfl rfl ?_
    refine gx_gf (x := (b : Int)) 0 r_312_100 (rfl) (ty_2 hT) ⟨by decide, rfl, by decide, by decide⟩ rfl (fun z => absurd z (by decide)) (hb) ?_
    refine gx_st (L' := [(2, 2), (0, 1)]) (S' := [(2, 2), (0, (b : Int))]) r_312_103 rfl rfl rfl ?_
    refine gx_gf (x := (n : Int)) 0 r_312_104 (rfl) (ty_2 hT) ⟨by decide, rfl, by decide, by decide⟩ rfl (fun z => absurd z (by decide)) (h21) ?_
    refine gx_ic (P := (n : Int) ≤ (b : Int)) r_312_107 (rfl) (fun h107 => ?_) (fun h107 => ?_)
    · have sn_ : e = b := hs.symm.trans (scn_n (by
        rw [hX b, if_neg (by omega)]; exact hP1))
      exact gx_rt r_312_156 rfl rfl (hQ m hf h4 h5 (by rw [sn_]; exact hb))
    · refine gx_st (L' := [(2, 2), (0, 1)]) (S' := [(2, 2)]) r_312_110 rfl rfl rfl ?_
      refine gx_st (L' := [(2, 2), (0, 1)]) (S' := [(2, 2), (2, 2)]) r_312_111 rfl rfl rfl ?_
      refine gx_gf (x := (b : Int)) 0 r_312_112 (rfl) (ty_2 hT) ⟨by decide, rfl, by decide, by decide⟩ rfl (fun z => absurd z (by decide)) (hb) ?_
      refine gx_ci (nx := 118) (S2 := []) (z_311 hT hpm hcm b) r_312_115 rfl rfl rfl rfl rfl (rcv_v rfl (ty_2 hT) (by decide) rfl (by decide)) rfl (by decide) rfl (fun x115 n115 q115 => ?_)
      obtain rfl := q115.1.symm
      obtain rfl := q115.2.symm
      show GX T 2 312 118 [(2, 2), (0, 1)] [(0, (X b))] m Q
      refine gx_ci (nx := 121) (S2 := []) (z_313 (X b)) r_312_118 rfl rfl rfl rfl rfl rfl rfl (by decide) rfl (fun x118 n118 q118 => ?_)
      obtain rfl := q118.1.symm
      obtain rfl := q118.2.symm
      show GX T 2 312 121 [(2, 2), (0, 1)] [(0, (kdB (X b)))] m Q
      refine gx_st (L' := [(2, 2), (0, 1)]) (S' := [(2, 2), (0, (kdB (X b)))]) r_312_121 rfl rfl rfl ?_
      refine gx_gf (x := K) 0 r_312_122 (rfl) (ty_2 hT) ⟨by decide, rfl, by decide, by decide⟩ rfl (fun z => absurd z (by decide)) (h4) ?_
      refine gx_ic (P := ¬ (kdB (X b)) = K) r_312_125 (rfl) (fun h125 => ?_) (fun h125 => ?_)
      · have sn_ : e = b := hs.symm.trans (scn_n (by
          cases z : P (X b) with
          | false => rfl
          | true => exact absurd ((hP _).mp z) h125))
        exact gx_rt r_312_156 rfl rfl (hQ m hf h4 h5 (by rw [sn_]; exact hb))
      · have h125 := Decidable.not_not.mp h125
        have sy_ : scn P X (b + 1) = e := (scn_y ((hP _).mpr h125) (by omega)).symm.trans hs
        refine gx_st (L' := [(2, 2), (0, 1)]) (S' := [(0, 1)]) r_312_128 rfl rfl rfl ?_
        refine gx_i0 (P := ¬ 1 = 0) r_312_129 (rfl) (fun h129 => ?_) (fun h129 => ?_)
        · refine gx_st (L' := [(2, 2), (0, 1)]) (S' := [(2, 2)]) r_312_143 rfl rfl rfl ?_
          refine gx_st (L' := [(2, 2), (0, 1)]) (S' := [(2, 2), (2, 2)]) r_312_144 rfl rfl rfl ?_
          refine gx_gf (x := (b : Int)) 0 r_312_145 (rfl) (ty_2 hT) ⟨by decide, rfl, by decide, by decide⟩ rfl (fun z => absurd z (by decide)) (hb) ?_
          refine gx_st (L' := [(2, 2), (0, 1)]) (S' := [(0, 1), (0, (b : Int)), (2, 2)]) r_312_148 rfl rfl rfl ?_
          refine gx_ar (L' := [(2, 2), (0, 1)]) (S' := [(2, 2)]) (t := 0) (e := w32 ((b : Int) + 1)) (z := (b : Int) + 1) r_312_149 rfl rfl rfl (w32_eq (by omega) (by omega) (by omega)) ?_
          obtain ⟨m1, e_m1⟩ : ∃ z, z = nu_up m 2 6 ((b : Int) + 1) := ⟨_, rfl⟩
          refine gx_pf (x := (b : Int) + 1) 0 r_312_150 (rfl) (ty_2 hT) ⟨by decide, rfl, by decide, by decide⟩ rfl (fun z => absurd z (by decide)) (fun z => absurd z (by decide)) e_m1.symm ?_
          refine gx_st (L' := [(2, 2), (0, 1)]) (S' := []) r_312_153 rfl rfl rfl ?_
          exact ih (b + 1) m1 (by omega) (fun o i hi => by rw [e_m1, nu_2 (by decide) hi]; exact hf o i hi) (by rw [e_m1, nu_ne (by decide)]; exact h4) (by rw [e_m1, nu_ne (by decide)]; exact h5) (by rw [e_m1, nu_at]; rfl) sy_
        · have h129 := Decidable.not_not.mp h129
          omega
theorem ntk_c {m0 : Mm} {Q : AV → Mm → Prop} {K : Int} {s : Nat} (hT : TT T) (hp : PinR m0) (hc : CXt X m0) (hx : XOK X) (hf : FrN m0 m) (h4 : m 2 4 = K) (h5 : m 2 5 = (s : Int)) (hb : m 2 6 = (s : Int) + 1) (hQ : ∀ m : Mm, FrN m0 m → m 2 4 = K → m 2 5 = (s : Int) → m 2 6 = (s : Int) + 1 → Q (9, 0) m) : GX T 2 312 99 [(2, 2), (0, 0)] [] m Q := by
  have hcm := CXt_N hc hf
  have hpm := PinR_N hp hf
  obtain ⟨n, hn8, h21, hX, hX0⟩ := hcm
  have hcm := CXt_N hc hf
  refine gx_st (L' := [(2, 2), (0, 0)]) (S' := [(2, 2)]) r_312_99 rfl rfl rfl ?_
  refine gx_gf (x := (s : Int) + 1) 0 r_312_100 (rfl) (ty_2 hT) ⟨by decide, rfl, by decide, by decide⟩ rfl (fun z => absurd z (by decide)) (hb) ?_
  refine gx_st (L' := [(2, 2), (0, 0)]) (S' := [(2, 2), (0, (s : Int) + 1)]) r_312_103 rfl rfl rfl ?_
  refine gx_gf (x := (n : Int)) 0 r_312_104 (rfl) (ty_2 hT) ⟨by decide, rfl, by decide, by decide⟩ rfl (fun z => absurd z (by decide)) (h21) ?_
  refine gx_ic (P := (n : Int) ≤ (s : Int) + 1) r_312_107 (rfl) (fun h107 => ?_) (fun h107 => ?_)
  · exact gx_rt r_312_156 rfl rfl (hQ m hf h4 h5 hb)
  · refine gx_st (L' := [(2, 2), (0, 0)]) (S' := [(2, 2)]) r_312_110 rfl rfl rfl ?_
    refine gx_st (L' := [(2, 2), (0, 0)]) (S' := [(2, 2), (2, 2)]) r_312_111 rfl rfl rfl ?_
    refine gx_gf (x := (s : Int) + 1) 0 r_312_112 (rfl) (ty_2 hT) ⟨by decide, rfl, by decide, by decide⟩ rfl (fun z => absurd z (by decide)) (hb) ?_
    refine gx_ci (nx := 118) (S2 := []) (z_311 hT hpm hcm (s + 1)) r_312_115 rfl rfl rfl rfl rfl (rcv_v rfl (ty_2 hT) (by decide) rfl (by decide)) rfl (by decide) rfl (fun x115 n115 q115 => ?_)
    obtain rfl := q115.1.symm
    obtain rfl := q115.2.symm
    show GX T 2 312 118 [(2, 2), (0, 0)] [(0, (X (s + 1)))] m Q
    refine gx_ci (nx := 121) (S2 := []) (z_313 ((X (s + 1)))) r_312_118 rfl rfl rfl rfl rfl rfl rfl (by decide) rfl (fun x118 n118 q118 => ?_)
    obtain rfl := q118.1.symm
    obtain rfl := q118.2.symm
    show GX T 2 312 121 [(2, 2), (0, 0)] [(0, (kdB ((X (s + 1)))))] m Q
    refine gx_st (L' := [(2, 2), (0, 0)]) (S' := [(2, 2), (0, (kdB ((X (s + 1)))))]) r_312_121 rfl rfl rfl ?_
    refine gx_gf (x := K) 0 r_312_122 (rfl) (ty_2 hT) ⟨by decide, rfl, by decide, by decide⟩ rfl (fun z => absurd z (by decide)) (h4) ?_
    refine gx_ic (P := ¬ (kdB ((X (s + 1)))) = K) r_312_125 (rfl) (fun h125 => ?_) (fun h125 => ?_)
    · exact gx_rt r_312_156 rfl rfl (hQ m hf h4 h5 hb)
    · have h125 := Decidable.not_not.mp h125
      refine gx_st (L' := [(2, 2), (0, 0)]) (S' := [(0, 0)]) r_312_128 rfl rfl rfl ?_
      refine gx_i0 (P := ¬ 0 = 0) r_312_129 (rfl) (fun h129 => ?_) (fun h129 => ?_)
      · omega
      · have h129 := Decidable.not_not.mp h129
        refine gx_st (L' := [(2, 2), (0, 0)]) (S' := [(2, 2)]) r_312_132 rfl rfl rfl ?_
        refine gx_gf (x := (s : Int) + 1) 0 r_312_133 (rfl) (ty_2 hT) ⟨by decide, rfl, by decide, by decide⟩ rfl (fun z => absurd z (by decide)) (hb) ?_
        refine gx_st (L' := [(2, 2), (0, 0)]) (S' := [(2, 2), (0, (s : Int) + 1)]) r_312_136 rfl rfl rfl ?_
        refine gx_gf (x := (s : Int)) 0 r_312_137 (rfl) (ty_2 hT) ⟨by decide, rfl, by decide, by decide⟩ rfl (fun z => absurd z (by decide)) (h5) ?_
        refine gx_ic (P := ¬ (s : Int) + 1 = (s : Int)) r_312_140 (rfl) (fun h140 => ?_) (fun h140 => ?_)
        · exact gx_rt r_312_156 rfl rfl (hQ m hf h4 h5 hb)
        · have h140 := Decidable.not_not.mp h140
          omega
theorem ntk_d {m0 : Mm} {Q : AV → Mm → Prop} {K : Int} {s : Nat} (hT : TT T) (hp : PinR m0) (hc : CXt X m0) (hx : XOK X) (hf : FrN m0 m) (h4 : m 2 4 = K) (h5 : m 2 5 = (s : Int)) (hb : m 2 6 = (s : Int)) (hK : kdB (X s) = K) (hQ0 : X s = -1 → ∀ m : Mm, FrN m0 m → m 2 4 = K → m 2 5 = (s : Int) → m 2 6 = (s : Int) → Q (9, 0) m) (hQ1 : ∀ m : Mm, FrN m0 m → m 2 4 = K → m 2 5 = (s : Int) → m 2 6 = (s : Int) + 1 → Q (9, 0) m) (hK0 : ¬ X s = -1 → True) : GX T 2 312 99 [(2, 2), (0, 0)] [] m Q := by
  have hcm := CXt_N hc hf
  have hpm := PinR_N hp hf
  obtain ⟨n, hn8, h21, hX, hX0⟩ := hcm
  have hcm := CXt_N hc hf
  refine gx_st (L' := [(2, 2), (0, 0)]) (S' := [(2, 2)]) r_312_99 rfl rfl rfl ?_
  refine gx_gf (x := (s : Int)) 0 r_312_100 (rfl) (ty_2 hT) ⟨by decide, rfl, by decide, by decide⟩ rfl (fun z => absurd z (by decide)) (hb) ?_
  refine gx_st (L' := [(2, 2), (0, 0)]) (S' := [(2, 2), (0, (s : Int))]) r_312_103 rfl rfl rfl ?_
  refine gx_gf (x := (n : Int)) 0 r_312_104 (rfl) (ty_2 hT) ⟨by decide, rfl, by decide, by decide⟩ rfl (fun z => absurd z (by decide)) (h21) ?_
  refine gx_ic (P := (n : Int) ≤ (s : Int)) r_312_107 (rfl) (fun h107 => ?_) (fun h107 => ?_)
  · exact gx_rt r_312_156 rfl rfl (hQ0 (by rw [hX s, if_neg (by omega)]) m hf h4 h5 hb)
  · refine gx_st (L' := [(2, 2), (0, 0)]) (S' := [(2, 2)]) r_312_110 rfl rfl rfl ?_
    refine gx_st (L' := [(2, 2), (0, 0)]) (S' := [(2, 2), (2, 2)]) r_312_111 rfl rfl rfl ?_
    refine gx_gf (x := (s : Int)) 0 r_312_112 (rfl) (ty_2 hT) ⟨by decide, rfl, by decide, by decide⟩ rfl (fun z => absurd z (by decide)) (hb) ?_
    refine gx_ci (nx := 118) (S2 := []) (z_311 hT hpm hcm s) r_312_115 rfl rfl rfl rfl rfl (rcv_v rfl (ty_2 hT) (by decide) rfl (by decide)) rfl (by decide) rfl (fun x115 n115 q115 => ?_)
    obtain rfl := q115.1.symm
    obtain rfl := q115.2.symm
    show GX T 2 312 118 [(2, 2), (0, 0)] [(0, (X s))] m Q
    refine gx_ci (nx := 121) (S2 := []) (z_313 (X s)) r_312_118 rfl rfl rfl rfl rfl rfl rfl (by decide) rfl (fun x118 n118 q118 => ?_)
    obtain rfl := q118.1.symm
    obtain rfl := q118.2.symm
    show GX T 2 312 121 [(2, 2), (0, 0)] [(0, (kdB (X s)))] m Q
    refine gx_st (L' := [(2, 2), (0, 0)]) (S' := [(2, 2), (0, (kdB (X s)))]) r_312_121 rfl rfl rfl ?_
    refine gx_gf (x := K) 0 r_312_122 (rfl) (ty_2 hT) ⟨by decide, rfl, by decide, by decide⟩ rfl (fun z => absurd z (by decide)) (h4) ?_
    refine gx_ic (P := ¬ (kdB (X s)) = K) r_312_125 (rfl) (fun h125 => ?_) (fun h125 => ?_)
    · exact absurd hK h125
    · have h125 := Decidable.not_not.mp h125
      refine gx_st (L' := [(2, 2), (0, 0)]) (S' := [(0, 0)]) r_312_128 rfl rfl rfl ?_
      refine gx_i0 (P := ¬ 0 = 0) r_312_129 (rfl) (fun h129 => ?_) (fun h129 => ?_)
      · omega
      · have h129 := Decidable.not_not.mp h129
        refine gx_st (L' := [(2, 2), (0, 0)]) (S' := [(2, 2)]) r_312_132 rfl rfl rfl ?_
        refine gx_gf (x := (s : Int)) 0 r_312_133 (rfl) (ty_2 hT) ⟨by decide, rfl, by decide, by decide⟩ rfl (fun z => absurd z (by decide)) (hb) ?_
        refine gx_st (L' := [(2, 2), (0, 0)]) (S' := [(2, 2), (0, (s : Int))]) r_312_136 rfl rfl rfl ?_
        refine gx_gf (x := (s : Int)) 0 r_312_137 (rfl) (ty_2 hT) ⟨by decide, rfl, by decide, by decide⟩ rfl (fun z => absurd z (by decide)) (h5) ?_
        refine gx_ic (P := ¬ (s : Int) = (s : Int)) r_312_140 (rfl) (fun h140 => ?_) (fun h140 => ?_)
        · omega
        · have h140 := Decidable.not_not.mp h140
          refine gx_st (L' := [(2, 2), (0, 0)]) (S' := [(2, 2)]) r_312_143 rfl rfl rfl ?_
          refine gx_st (L' := [(2, 2), (0, 0)]) (S' := [(2, 2), (2, 2)]) r_312_144 rfl rfl rfl ?_
          refine gx_gf (x := (s : Int)) 0 r_312_145 (rfl) (ty_2 hT) ⟨by decide, rfl, by decide, by decide⟩ rfl (fun z => absurd z (by decide)) (hb) ?_
          refine gx_st (L' := [(2, 2), (0, 0)]) (S' := [(0, 1), (0, (s : Int)), (2, 2)]) r_312_148 rfl rfl rfl ?_
          refine gx_ar (L' := [(2, 2), (0, 0)]) (S' := [(2, 2)]) (t := 0) (e := w32 ((s : Int) + 1)) (z := (s : Int) + 1) r_312_149 rfl rfl rfl (w32_eq (by omega) (by omega) (by omega)) ?_
          obtain ⟨m1, e_m1⟩ : ∃ z, z = nu_up m 2 6 ((s : Int) + 1) := ⟨_, rfl⟩
          refine gx_pf (x := (s : Int) + 1) 0 r_312_150 (rfl) (ty_2 hT) ⟨by decide, rfl, by decide, by decide⟩ rfl (fun z => absurd z (by decide)) (fun z => absurd z (by decide)) e_m1.symm ?_
          refine gx_st (L' := [(2, 2), (0, 0)]) (S' := []) r_312_153 rfl rfl rfl ?_
          exact ntk_c hT hp hc hx (K := K) (s := s) (fun o i hi => by rw [e_m1, nu_2 (by decide) hi]; exact hf o i hi) (by rw [e_m1, nu_ne (by decide)]; exact h4) (by rw [e_m1, nu_ne (by decide)]; exact h5) (by rw [e_m1, nu_at]) hQ1
theorem ntk_d0 {m0 : Mm} {Q : AV → Mm → Prop} {K : Int} {s : Nat} (hT : TT T) (hp : PinR m0) (hc : CXt X m0) (hx : XOK X) (hf : FrN m0 m) (h4 : m 2 4 = K) (h5 : m 2 5 = (s : Int)) (hb : m 2 6 = (s : Int)) (x0 : X s = -1) (hQ : ∀ m : Mm, FrN m0 m → m 2 4 = K → m 2 5 = (s : Int) → m 2 6 = (s : Int) → Q (9, 0) m) : GX T 2 312 99 [(2, 2), (0, 0)] [] m Q := by
  have hcm := CXt_N hc hf
  have hpm := PinR_N hp hf
  obtain ⟨n, hn8, h21, hX, hX0⟩ := hcm
  have hcm := CXt_N hc hf
  refine gx_st (L' := [(2, 2), (0, 0)]) (S' := [(2, 2)]) r_312_99 rfl rfl rfl ?_
  refine gx_gf (x := (s : Int)) 0 r_312_100 (rfl) (ty_2 hT) ⟨by decide, rfl, by decide, by decide⟩ rfl (fun z => absurd z (by decide)) (hb) ?_
  refine gx_st (L' := [(2, 2), (0, 0)]) (S' := [(2, 2), (0, (s : Int))]) r_312_103 rfl rfl rfl ?_
  refine gx_gf (x := (n : Int)) 0 r_312_104 (rfl) (ty_2 hT) ⟨by decide, rfl, by decide, by decide⟩ rfl (fun z => absurd z (by decide)) (h21) ?_
  refine gx_ic (P := (n : Int) ≤ (s : Int)) r_312_107 (rfl) (fun h107 => ?_) (fun h107 => ?_)
  · exact gx_rt r_312_156 rfl rfl (hQ m hf h4 h5 hb)
  · exact absurd x0 (by have := hX0 s (by omega); omega)
theorem z_312 (hT : TT T) (hp : PinR m) (hc : CXt X m) (hx : XOK X) {p : Nat} (h2 : m 2 2 = 0) (h6 : m 2 6 = (p : Int)) (hp8 : p ≤ 800) : GX T 2 312 0 [(2, 2), (9, 0)] [] m (RV (fun m1 => CT X m1 p)) := by
  refine gx_st (L' := [(2, 2), (9, 0)]) (S' := [(2, 2)]) r_312_0 rfl rfl rfl ?_
  refine gx_gf (x := 0) 0 r_312_1 (rfl) (ty_2 hT) ⟨by decide, rfl, by decide, by decide⟩ rfl (fun z => absurd z (by decide)) (h2) ?_
  refine gx_i0 (P := 0 = 0) r_312_4 (rfl) (fun h4 => ?_) (fun h4 => ?_)
  · refine gx_st (L' := [(2, 2), (9, 0)]) (S' := [(2, 2)]) r_312_8 rfl rfl rfl ?_
    refine gx_st (L' := [(2, 2), (9, 0)]) (S' := [(2, 2), (2, 2)]) r_312_9 rfl rfl rfl ?_
    refine gx_gf (x := (p : Int)) 0 r_312_10 (rfl) (ty_2 hT) ⟨by decide, rfl, by decide, by decide⟩ rfl (fun z => absurd z (by decide)) (h6) ?_
    obtain ⟨m1, e_m1⟩ : ∃ z, z = nu_up m 2 5 (p : Int) := ⟨_, rfl⟩
    refine gx_pf (x := (p : Int)) 0 r_312_13 (rfl) (ty_2 hT) ⟨by decide, rfl, by decide, by decide⟩ rfl (fun z => absurd z (by decide)) (fun z => absurd z (by decide)) e_m1.symm ?_
    have hf0 : FrN m m1 := fun o i hi => by rw [e_m1]; exact nu_2 (by decide) hi
    refine ntk_a hT hp hc hx (m0 := m) (p := p) (fun p0 hf h5 => ?_) (802 - p) p m1 (by omega) hf0 (by rw [e_m1, nu_at]) rfl
    obtain ⟨s, h_s⟩ : ∃ s, s = nS X p := ⟨_, rfl⟩
    rw [← h_s] at h5
    have hcm := CXt_N hc hf
    have hpm := PinR_N hp hf
    have hst : isBl (X s) = false := by rw [h_s]; exact scn_stop hx (by decide) (by omega)
    refine gx_st (L' := [(2, 2), (9, 0)]) (S' := [(2, 2)]) r_312_54 rfl rfl rfl ?_
    refine gx_st (L' := [(2, 2), (9, 0)]) (S' := [(2, 2), (2, 2)]) r_312_55 rfl rfl rfl ?_
    refine gx_st (L' := [(2, 2), (9, 0)]) (S' := [(2, 2), (2, 2), (2, 2)]) r_312_56 rfl rfl rfl ?_
    refine gx_gf (x := (s : Int)) 0 r_312_57 (rfl) (ty_2 hT) ⟨by decide, rfl, by decide, by decide⟩ rfl (fun z => absurd z (by decide)) (h5) ?_
    refine gx_ci (nx := 63) (S2 := [(2, 2)]) (z_311 hT hpm hcm s) r_312_60 rfl rfl rfl rfl rfl (rcv_v rfl (ty_2 hT) (by decide) rfl (by decide)) rfl (by decide) rfl (fun x60 n60 q60 => ?_)
    obtain rfl := q60.1.symm
    obtain rfl := q60.2.symm
    show GX T 2 312 63 [(2, 2), (9, 0)] [(0, (X s)), (2, 2)] p0 (RV (fun m1 => CT X m1 p))
    refine gx_ci (nx := 66) (S2 := [(2, 2)]) (z_313 (X s)) r_312_63 rfl rfl rfl rfl rfl rfl rfl (by decide) rfl (fun x63 n63 q63 => ?_)
    obtain rfl := q63.1.symm
    obtain rfl := q63.2.symm
    show GX T 2 312 66 [(2, 2), (9, 0)] [(0, (kdB (X s))), (2, 2)] p0 (RV (fun m1 => CT X m1 p))
    obtain ⟨m2, e_m2⟩ : ∃ z, z = nu_up p0 2 4 ((kdB (X s))) := ⟨_, rfl⟩
    refine gx_pf (x := (kdB (X s))) 0 r_312_66 (rfl) (ty_2 hT) ⟨by decide, rfl, by decide, by decide⟩ rfl (fun z => absurd z (by decide)) (fun z => absurd z (by decide)) e_m2.symm ?_
    refine gx_st (L' := [(2, 2), (9, 0)]) (S' := [(2, 2)]) r_312_69 rfl rfl rfl ?_
    refine gx_st (L' := [(2, 2), (9, 0)]) (S' := [(2, 2), (2, 2)]) r_312_70 rfl rfl rfl ?_
    refine gx_gf (x := (s : Int)) 0 r_312_71 (rfl) (ty_2 hT) ⟨by decide, rfl, by decide, by decide⟩ rfl (fun z => absurd z (by decide)) (by show m2 2 5 = _; rw [e_m2, nu_ne (by decide)]; exact h5) ?_
    obtain ⟨m3, e_m3⟩ : ∃ z, z = nu_up m2 2 6 (s : Int) := ⟨_, rfl⟩
    refine gx_pf (x := (s : Int)) 0 r_312_74 (rfl) (ty_2 hT) ⟨by decide, rfl, by decide, by decide⟩ rfl (fun z => absurd z (by decide)) (fun z => absurd z (by decide)) e_m3.symm ?_
    have hk_ : kdB (X s) = nK X p := by rw [kdB_n hst, h_s]; rfl
    have hf2 : FrN m m3 := fun o i hi => by rw [e_m3, nu_2 (by decide) hi, e_m2, nu_2 (by decide) hi]; exact hf o i hi
    have g4 : m3 2 4 = nK X p := by rw [e_m3, nu_ne (by decide), e_m2, nu_at]; exact hk_
    have g5 : m3 2 5 = (s : Int) := by rw [e_m3, nu_ne (by decide), e_m2, nu_ne (by decide)]; exact h5
    have g6 : m3 2 6 = (s : Int) := by rw [e_m3, nu_at]
    refine gx_st (L' := [(2, 2), (9, 0)]) (S' := [(2, 2)]) r_312_77 rfl rfl rfl ?_
    refine gx_gf (x := (nK X p)) 0 r_312_78 (rfl) (ty_2 hT) ⟨by decide, rfl, by decide, by decide⟩ rfl (fun z => absurd z (by decide)) (g4) ?_
    refine gx_st (L' := [(2, 2), (9, 0)]) (S' := [(0, 1), (0, (nK X p))]) r_312_81 rfl rfl rfl ?_
    refine gx_ic (P := (nK X p) = 1) r_312_82 (rfl) (fun h82 => ?_) (fun h82 => ?_)
    · refine gx_st (L' := [(2, 2), (9, 0)]) (S' := [(0, 1)]) r_312_93 rfl rfl rfl ?_
      refine gx_st (L' := [(2, 2), (9, 0)]) (S' := [(0, 1)]) r_312_94 rfl rfl rfl ?_
      refine gx_st (L' := [(2, 2), (0, 1)]) (S' := []) r_312_98 rfl rfl rfl ?_
      have k1 : nK X p = 1 := h82
      exact ntk_b hT hp hc hx (P := isLt) (K := 1) (s := s) (e := nE X p) (fun c => ⟨fun z => kdB_1.mpr (of_decide_eq_true z), fun z => decide_eq_true (kdB_1.mp z)⟩) (by decide) (fun m1 _ a4 a5 a6 => ⟨rfl, a4.trans k1.symm, by rw [← h_s]; exact a5, a6⟩) 802 s m3 (by omega) hf2 (g4.trans k1) g5 g6 (by rw [nE_1 k1, h_s])
    · refine gx_st (L' := [(2, 2), (9, 0)]) (S' := [(2, 2)]) r_312_85 rfl rfl rfl ?_
      refine gx_gf (x := (nK X p)) 0 r_312_86 (rfl) (ty_2 hT) ⟨by decide, rfl, by decide, by decide⟩ rfl (fun z => absurd z (by decide)) (g4) ?_
      refine gx_st (L' := [(2, 2), (9, 0)]) (S' := [(0, 2), (0, (nK X p))]) r_312_89 rfl rfl rfl ?_
      refine gx_ic (P := ¬ (nK X p) = 2) r_312_90 (rfl) (fun h90 => ?_) (fun h90 => ?_)
      · refine gx_st (L' := [(2, 2), (9, 0)]) (S' := [(0, 0)]) r_312_97 rfl rfl rfl ?_
        refine gx_st (L' := [(2, 2), (0, 0)]) (S' := []) r_312_98 rfl rfl rfl ?_
        by_cases k0 : nK X p = 0
        · have x0 : X s = -1 := by rw [h_s]; exact kd_0.mp k0
          exact ntk_d0 hT hp hc hx (K := nK X p) (s := s) hf2 g4 g5 g6 x0 (fun m1 _ a4 a5 a6 => ⟨rfl, a4, by rw [← h_s]; exact a5, by rw [nE_0 k0, ← h_s]; exact a6⟩)
        · have x0 : ¬ X s = -1 := fun z => k0 (by show kd (X (nS X p)) = 0; rw [← h_s, z]; rfl)
          exact ntk_d hT hp hc hx (K := nK X p) (s := s) hf2 g4 g5 g6 hk_ (fun z => absurd z x0) (fun m1 _ a4 a5 a6 => ⟨rfl, a4, by rw [← h_s]; exact a5, by rw [nE_3 k0 (by omega) (by omega), ← h_s]; exact a6⟩) (fun _ => trivial)
      · have h90 := Decidable.not_not.mp h90
        refine gx_st (L' := [(2, 2), (9, 0)]) (S' := [(0, 1)]) r_312_93 rfl rfl rfl ?_
        refine gx_st (L' := [(2, 2), (9, 0)]) (S' := [(0, 1)]) r_312_94 rfl rfl rfl ?_
        refine gx_st (L' := [(2, 2), (0, 1)]) (S' := []) r_312_98 rfl rfl rfl ?_
        have k2 : nK X p = 2 := by omega
        exact ntk_b hT hp hc hx (P := isDg) (K := 2) (s := s) (e := nE X p) (fun c => ⟨fun z => kdB_2.mpr (of_decide_eq_true z), fun z => decide_eq_true (kdB_2.mp z)⟩) (by decide) (fun m1 _ a4 a5 a6 => ⟨rfl, a4.trans k2.symm, by rw [← h_s]; exact a5, a6⟩) 802 s m3 (by omega) hf2 (g4.trans k2) g5 g6 (by rw [nE_2 k2, h_s])
  · omega
theorem z_312e (hT : TT T) {f : Int} (h2 : m 2 2 = f) (hf : ¬ f = 0) : GX T 2 312 0 [(2, 2), (9, 0)] [] m (RV (fun m1 => m1 = m)) := by
  refine gx_st (L' := [(2, 2), (9, 0)]) (S' := [(2, 2)]) r_312_0 rfl rfl rfl ?_
  refine gx_gf (x := f) 0 r_312_1 (rfl) (ty_2 hT) ⟨by decide, rfl, by decide, by decide⟩ rfl (fun z => absurd z (by decide)) (h2) ?_
  refine gx_i0 (P := f = 0) r_312_4 (rfl) (fun h4 => ?_) (fun h4 => ?_)
  · exact absurd h4 hf
  · exact gx_rt r_312_7 rfl rfl ⟨rfl, rfl⟩
theorem isw_l (hT : TT T) (hp : PinR m) (hc : CXt X m) {p : Nat} (ht : CT X m p) {o : Int} {q n : Nat} (hq : q < 15) (ho : o = 1000000 + (q : Int)) (hn : slen q = some n) (hs8 : nS X p < 900) (hk1 : nK X p = 1) (hlen : nE X p - nS X p = n) : ∀ (N k : Nat), n - k < N → k ≤ n → (∀ i : Nat, i < k → sch q i = some (X (nS X p + i))) → GX T 1 314 28 [(2, 2), (2, o), (0, (k : Int))] [] m (RI (fun v m1 => v = (if isWd X p q = true then 1 else 0) ∧ m1 = m)) := by
  intro N
  induction N with
  | zero => intro k hN; exact absurd hN (Nat.not_lt_zero _)
  | succ N ih =>
    intro k hN hk hI
    have hn10 : n ≤ 10 := by have := slen_t q hq; rw [hn] at this; exact this
    obtain ⟨s, h_s⟩ : ∃ s, s = nS X p := ⟨_, rfl⟩
    have h5 : m 2 5 = (s : Int) := by rw [h_s]; exact ht.2.1
    rw [← h_s] at hI
    have h6 : m 2 6 = (nE X p : Int) := ht.2.2
    have nb := nE_le (X := X) (p := p)
    have b6 : nS X p < 900 := hs8
    refine gx_st (L' := [(2, 2), (2, o), (0, (k : Int))]) (S' := [(0, (k : Int))]) r_314_28 rfl rfl rfl ?_
    refine gx_st (L' := [(2, 2), (2, o), (0, (k : Int))]) (S' := [(2, o), (0, (k : Int))]) r_314_29 rfl rfl rfl ?_
    refine gx_len r_314_30 ho hn (Nat.le_of_ble_eq_true rfl) ?_
    refine gx_ic (P := (n : Int) ≤ (k : Int)) r_314_33 (rfl) (fun h33 => ?_) (fun h33 => ?_)
    · refine gx_st (L' := [(2, 2), (2, o), (0, (k : Int))]) (S' := [(0, 1)]) r_314_62 rfl rfl rfl ?_
      refine gx_rb r_314_63 rfl (Or.inr rfl) ⟨_, rfl, ?_, rfl⟩
      have hkn : k = n := by omega
      rw [hkn, h_s] at hI
      rw [if_pos (isWd_t.mpr ⟨hk1, by rw [hn]; exact hlen, fun i hi => hI i (by rw [hn] at hi; exact hi)⟩)]
    · refine gx_st (L' := [(2, 2), (2, o), (0, (k : Int))]) (S' := [(2, 2)]) r_314_36 rfl rfl rfl ?_
      refine gx_st (L' := [(2, 2), (2, o), (0, (k : Int))]) (S' := [(2, 2), (2, 2)]) r_314_37 rfl rfl rfl ?_
      refine gx_gf (x := (s : Int)) 0 r_314_38 (rfl) (ty_2 hT) ⟨by decide, rfl, by decide, by decide⟩ rfl (fun z => absurd z (by decide)) (h5) ?_
      refine gx_st (L' := [(2, 2), (2, o), (0, (k : Int))]) (S' := [(0, (k : Int)), (0, (s : Int)), (2, 2)]) r_314_41 rfl rfl rfl ?_
      refine gx_ar (L' := [(2, 2), (2, o), (0, (k : Int))]) (S' := [(2, 2)]) (t := 0) (e := w32 ((s : Int) + (k : Int))) (z := (s : Int) + (k : Int)) r_314_42 rfl rfl rfl (w32_eq (by omega) (by omega) (by omega)) ?_
      refine gx_ci (nx := 46) (S2 := []) (z_311 hT hp hc (s + k)) r_314_43 rfl rfl rfl rfl rfl (rcv_v rfl (ty_2 hT) (by decide) rfl (by decide)) rfl (by decide) rfl (fun x43 n43 q43 => ?_)
      obtain rfl := q43.1.symm
      obtain rfl := q43.2.symm
      show GX T 1 314 46 [(2, 2), (2, o), (0, (k : Int))] [(0, (X (s + k)))] m (RI (fun v m1 => v = (if isWd X p q = true then 1 else 0) ∧ m1 = m))
      refine gx_st (L' := [(2, 2), (2, o), (0, (k : Int))]) (S' := [(2, o), (0, (X (s + k)))]) r_314_46 rfl rfl rfl ?_
      refine gx_st (L' := [(2, 2), (2, o), (0, (k : Int))]) (S' := [(0, (k : Int)), (2, o), (0, (X (s + k)))]) r_314_47 rfl rfl rfl ?_
      obtain ⟨c48, e_c48⟩ : ∃ z, sch q k = some z := sch_ex hq hn (by omega)
      refine gx_chr (k := k) r_314_48 ho (by omega) e_c48 (Nat.le_of_ble_eq_true rfl) ?_
      refine gx_ic (P := (X (s + k)) = c48) r_314_51 (rfl) (fun h51 => ?_) (fun h51 => ?_)
      · refine gx_li (z := (k : Int) + 1) (L' := [(2, 2), (2, o), (0, (k : Int) + 1)]) r_314_56 rfl (w32_eq (by omega) (by omega) (by omega)) rfl ?_
        refine gx_st (L' := [(2, 2), (2, o), (0, (k : Int) + 1)]) (S' := []) r_314_59 rfl rfl rfl ?_
        rw [show (k : Int) + 1 = ((k + 1 : Nat) : Int) from rfl]
        refine ih (k + 1) (by omega) (by omega) (fun i hi => ?_)
        rw [← h_s]
        by_cases e : i = k
        · rw [e, e_c48]; exact congrArg some (by omega)
        · exact hI i (by omega)
      · refine gx_st (L' := [(2, 2), (2, o), (0, (k : Int))]) (S' := [(0, 0)]) r_314_54 rfl rfl rfl ?_
        refine gx_rb r_314_55 rfl (Or.inl rfl) ⟨_, rfl, ?_, rfl⟩
        rw [if_neg (fun z => ?_)]
        have z2 := (isWd_t.mp z).2.2 k (by rw [hn]; show k < n; omega)
        rw [← h_s, e_c48] at z2
        have z3 := Option.some.inj z2
        omega
theorem z_314 (hT : TT T) (hp : PinR m) (hc : CXt X m) {p : Nat} (ht : CT X m p) (hs8 : nE X p ≤ 800) {o : Int} {q n : Nat} (hq : q < 15) (ho : o = 1000000 + (q : Int)) (hn : slen q = some n) : GX T 1 314 0 [(2, 2), (2, o), (9, 0)] [] m (RI (fun v m1 => v = (if isWd X p q = true then 1 else 0) ∧ m1 = m)) := by
  obtain ⟨s, h_s⟩ : ∃ s, s = nS X p := ⟨_, rfl⟩
  obtain ⟨e, h_e⟩ : ∃ e, e = nE X p := ⟨_, rfl⟩
  have hh5 : m 2 5 = (s : Int) := by rw [h_s]; exact ht.2.1
  have hh6 : m 2 6 = (e : Int) := by rw [h_e]; exact ht.2.2
  have nb := nE_le (X := X) (p := p)
  have hn10 : n ≤ 10 := by have := slen_t q hq; rw [hn] at this; exact this
  refine gx_st (L' := [(2, 2), (2, o), (9, 0)]) (S' := [(2, 2)]) r_314_0 rfl rfl rfl ?_
  refine gx_gf (x := (nK X p)) 0 r_314_1 (rfl) (ty_2 hT) ⟨by decide, rfl, by decide, by decide⟩ rfl (fun z => absurd z (by decide)) (ht.1) ?_
  refine gx_st (L' := [(2, 2), (2, o), (9, 0)]) (S' := [(0, 1), (0, (nK X p))]) r_314_4 rfl rfl rfl ?_
  refine gx_ic (P := ¬ (nK X p) = 1) r_314_5 (rfl) (fun h5 => ?_) (fun h5 => ?_)
  · refine gx_st (L' := [(2, 2), (2, o), (9, 0)]) (S' := [(0, 0)]) r_314_24 rfl rfl rfl ?_
    refine gx_rb r_314_25 rfl (Or.inl rfl) ⟨_, rfl, ?_, rfl⟩
    rw [if_neg (fun z => ?_)]
    have z1 := isWd_t.mp z
    have z2 := z1.2.1
    rw [hn] at z2
    have z3 : nE X p - nS X p = n := z2
    omega
  · have h5 := Decidable.not_not.mp h5
    refine gx_st (L' := [(2, 2), (2, o), (9, 0)]) (S' := [(2, 2)]) r_314_8 rfl rfl rfl ?_
    refine gx_gf (x := (e : Int)) 0 r_314_9 (rfl) (ty_2 hT) ⟨by decide, rfl, by decide, by decide⟩ rfl (fun z => absurd z (by decide)) (hh6) ?_
    refine gx_st (L' := [(2, 2), (2, o), (9, 0)]) (S' := [(2, 2), (0, (e : Int))]) r_314_12 rfl rfl rfl ?_
    refine gx_gf (x := (s : Int)) 0 r_314_13 (rfl) (ty_2 hT) ⟨by decide, rfl, by decide, by decide⟩ rfl (fun z => absurd z (by decide)) (hh5) ?_
    refine gx_ar (L' := [(2, 2), (2, o), (9, 0)]) (S' := []) (t := 0) (e := w32 ((e : Int) - (s : Int))) (z := (e : Int) - (s : Int)) r_314_16 rfl rfl rfl (w32_eq (by omega) (by omega) (by omega)) ?_
    refine gx_st (L' := [(2, 2), (2, o), (9, 0)]) (S' := [(2, o), (0, (e : Int) - (s : Int))]) r_314_17 rfl rfl rfl ?_
    refine gx_len r_314_18 ho hn (Nat.le_of_ble_eq_true rfl) ?_
    refine gx_ic (P := (e : Int) - (s : Int) = (n : Int)) r_314_21 (rfl) (fun h21 => ?_) (fun h21 => ?_)
    · refine gx_st (L' := [(2, 2), (2, o), (9, 0)]) (S' := [(0, 0)]) r_314_26 rfl rfl rfl ?_
      refine gx_st (L' := [(2, 2), (2, o), (0, 0)]) (S' := []) r_314_27 rfl rfl rfl ?_
      exact isw_l hT hp hc ht hq ho hn (by omega) (by omega) (by omega) (n + 1) 0 (by omega) (by omega) (fun i hi => absurd hi (Nat.not_lt_zero _))
    · refine gx_st (L' := [(2, 2), (2, o), (9, 0)]) (S' := [(0, 0)]) r_314_24 rfl rfl rfl ?_
      refine gx_rb r_314_25 rfl (Or.inl rfl) ⟨_, rfl, ?_, rfl⟩
      rw [if_neg (fun z => ?_)]
      have z1 := isWd_t.mp z
      have z2 := z1.2.1
      rw [hn] at z2
      have z3 : nE X p - nS X p = n := z2
      omega
theorem tkv_l (hT : TT T) (hp : PinR m) (hc : CXt X m) {p : Nat} (ht : CT X m p) (hk2 : nK X p = 2) (hs8 : nE X p ≤ 800) : ∀ (N k : Nat), (nE X p - nS X p) - k < N → k ≤ nE X p - nS X p → GX T 1 315 7 [(2, 2), (0, vl 1000000 X (nS X p) k), (0, (nS X p : Int) + (k : Int))] [] m (RI (fun v m1 => v = vl 1000000 X (nS X p) (nE X p - nS X p) ∧ m1 = m)) := by
  intro N
  induction N with
  | zero => intro k hN; exact absurd hN (Nat.not_lt_zero _)
  | succ N ih =>
    intro k hN hk
    have nb := nE_le (X := X) (p := p)
    have hd := nV_dg hk2
    have bv := vl_in (C := 1000000) (by decide) k (fun i hi => hd i (by omega))
    obtain ⟨s, h_s⟩ : ∃ s, s = nS X p := ⟨_, rfl⟩
    obtain ⟨e, h_e⟩ : ∃ e, e = nE X p := ⟨_, rfl⟩
    have h6 : m 2 6 = (e : Int) := by rw [h_e]; exact ht.2.2
    have hd2 : k < nE X p - nS X p → 48 ≤ X (s + k) ∧ X (s + k) ≤ 57 := fun z => by rw [h_s]; exact hd k z
    rw [← h_s] at bv
    rw [← h_s]
    obtain ⟨v, h_v⟩ : ∃ v, v = vl 1000000 X s k := ⟨_, rfl⟩
    rw [← h_v] at bv
    rw [← h_v]
    refine gx_st (L' := [(2, 2), (0, v), (0, (s : Int) + (k : Int))]) (S' := [(0, (s : Int) + (k : Int))]) r_315_7 rfl rfl rfl ?_
    refine gx_st (L' := [(2, 2), (0, v), (0, (s : Int) + (k : Int))]) (S' := [(2, 2), (0, (s : Int) + (k : Int))]) r_315_8 rfl rfl rfl ?_
    refine gx_gf (x := (e : Int)) 0 r_315_9 (rfl) (ty_2 hT) ⟨by decide, rfl, by decide, by decide⟩ rfl (fun z => absurd z (by decide)) (h6) ?_
    refine gx_ic (P := (e : Int) ≤ (s : Int) + (k : Int)) r_315_12 (rfl) (fun h12 => ?_) (fun h12 => ?_)
    · refine gx_st (L' := [(2, 2), (0, v), (0, (s : Int) + (k : Int))]) (S' := [(0, v)]) r_315_40 rfl rfl rfl ?_
      refine gx_rt r_315_41 rfl rfl ⟨_, rfl, ?_, rfl⟩
      rw [h_v, h_s]
      rw [show k = nE X p - nS X p by omega]
    · have hd3 := hd2 (by omega)
      refine gx_st (L' := [(2, 2), (0, v), (0, (s : Int) + (k : Int))]) (S' := [(0, v)]) r_315_15 rfl rfl rfl ?_
      refine gx_st (L' := [(2, 2), (0, v), (0, (s : Int) + (k : Int))]) (S' := [(0, 10), (0, v)]) r_315_16 rfl rfl rfl ?_
      refine gx_ar (L' := [(2, 2), (0, v), (0, (s : Int) + (k : Int))]) (S' := []) (t := 0) (e := w32 (v * 10)) (z := 10 * v) r_315_18 rfl rfl rfl (w32_eq (by omega) (by omega) (by omega)) ?_
      refine gx_st (L' := [(2, 2), (0, v), (0, (s : Int) + (k : Int))]) (S' := [(2, 2), (0, 10 * v)]) r_315_19 rfl rfl rfl ?_
      refine gx_st (L' := [(2, 2), (0, v), (0, (s : Int) + (k : Int))]) (S' := [(0, (s : Int) + (k : Int)), (2, 2), (0, 10 * v)]) r_315_20 rfl rfl rfl ?_
      refine gx_ci (nx := 24) (S2 := [(0, 10 * v)]) (z_311 hT hp hc (s + k)) r_315_21 rfl rfl rfl rfl rfl (rcv_v rfl (ty_2 hT) (by decide) rfl (by decide)) rfl (by decide) rfl (fun x21 n21 q21 => ?_)
      obtain rfl := q21.1.symm
      obtain rfl := q21.2.symm
      show GX T 1 315 24 [(2, 2), (0, v), (0, (s : Int) + (k : Int))] [(0, (X (s + k))), (0, 10 * v)] m (RI (fun v m1 => v = vl 1000000 X (s) (nE X p - s) ∧ m1 = m))
      refine gx_ar (L' := [(2, 2), (0, v), (0, (s : Int) + (k : Int))]) (S' := []) (t := 0) (e := w32 ((10 * v) + ((X (s + k))))) (z := 10 * v + (X (s + k))) r_315_24 rfl rfl rfl (w32_eq (by omega) (by omega) (by omega)) ?_
      refine gx_st (L' := [(2, 2), (0, v), (0, (s : Int) + (k : Int))]) (S' := [(0, 48), (0, 10 * v + (X (s + k)))]) r_315_25 rfl rfl rfl ?_
      refine gx_ar (L' := [(2, 2), (0, v), (0, (s : Int) + (k : Int))]) (S' := []) (t := 0) (e := w32 ((10 * v + (X (s + k))) - 48)) (z := 10 * v + (X (s + k)) - 48) r_315_27 rfl rfl rfl (w32_eq (by omega) (by omega) (by omega)) ?_
      refine gx_st (L' := [(2, 2), (0, v), (0, (s : Int) + (k : Int))]) (S' := [(0, 1000000), (0, 10 * v + (X (s + k)) - 48)]) r_315_28 rfl rfl rfl ?_
      refine gx_st (L' := [(2, 2), (0, v), (0, (s : Int) + (k : Int))]) (S' := [(0, (min (10 * v + (X (s + k)) - 48) 1000000))]) r_315_30 rfl rfl rfl ?_
      refine gx_st (L' := [(2, 2), (0, (min (10 * v + (X (s + k)) - 48) 1000000)), (0, (s : Int) + (k : Int))]) (S' := []) r_315_33 rfl rfl rfl ?_
      refine gx_li (z := (s : Int) + (k : Int) + 1) (L' := [(2, 2), (0, (min (10 * v + (X (s + k)) - 48) 1000000)), (0, (s : Int) + (k : Int) + 1)]) r_315_34 rfl (w32_eq (by omega) (by omega) (by omega)) rfl ?_
      refine gx_st (L' := [(2, 2), (0, (min (10 * v + (X (s + k)) - 48) 1000000)), (0, (s : Int) + (k : Int) + 1)]) (S' := []) r_315_37 rfl rfl rfl ?_
      have e1 : min (10 * v + X (s + k) - 48) 1000000 = vl 1000000 X (nS X p) (k + 1) := by
        rw [← h_s, h_v]
        show _ = min 1000000 (10 * vl 1000000 X s k + X (s + k) - 48)
        omega
      rw [e1, h_s, show ((nS X p : Nat) : Int) + (k : Int) + 1 = (nS X p : Int) + ((k + 1 : Nat) : Int) by omega]
      exact ih (k + 1) (by omega) (by omega)
theorem z_315 (hT : TT T) (hp : PinR m) (hc : CXt X m) {p : Nat} (ht : CT X m p) (hk2 : nK X p = 2) (hs8 : nE X p ≤ 800) : GX T 1 315 0 [(2, 2), (9, 0), (9, 0)] [] m (RI (fun v m1 => v = vl 1000000 X (nS X p) (nE X p - nS X p) ∧ m1 = m)) := by
  refine gx_st (L' := [(2, 2), (9, 0), (9, 0)]) (S' := [(0, 0)]) r_315_0 rfl rfl rfl ?_
  refine gx_st (L' := [(2, 2), (0, 0), (9, 0)]) (S' := []) r_315_1 rfl rfl rfl ?_
  refine gx_st (L' := [(2, 2), (0, 0), (9, 0)]) (S' := [(2, 2)]) r_315_2 rfl rfl rfl ?_
  refine gx_gf (x := (nS X p : Int)) 0 r_315_3 (rfl) (ty_2 hT) ⟨by decide, rfl, by decide, by decide⟩ rfl (fun z => absurd z (by decide)) (ht.2.1) ?_
  refine gx_st (L' := [(2, 2), (0, 0), (0, (nS X p : Int))]) (S' := []) r_315_6 rfl rfl rfl ?_
  have z := tkv_l hT hp hc ht hk2 hs8 (nE X p - nS X p + 1) 0 (by omega) (by omega)
  rw [show (nS X p : Int) + ((0 : Nat) : Int) = (nS X p : Int) by omega] at z
  exact z
end TOKC
