/-! from, best -/
theorem r_34_0 : row 34 0 = some (.iload_n 1, 1, 0, 0, 0, 0) := rfl
theorem r_34_1 : row 34 1 = some (.aload_n 0, 2, 0, 0, 0, 0) := rfl
theorem r_34_2 : row 34 2 = some (.getfield 19, 5, 9, 1, 2, 2159) := rfl
theorem r_34_5 : row 34 5 = some (.getfield 152, 8, 3, 8, 10, 1101) := rfl
theorem r_34_8 : row 34 8 = some (.invokestatic 126, 11, 71, 2, 0, 4020) := rfl
theorem r_34_11 : row 34 11 = some (.ifCond .eq 11, 14, 22, 0, 0, 0) := rfl
theorem r_34_14 : row 34 14 = some (.aload_n 0, 15, 0, 0, 0, 0) := rfl
theorem r_34_15 : row 34 15 = some (.iload_n 1, 16, 0, 0, 0, 0) := rfl
theorem r_34_16 : row 34 16 = some (.invokevirtual 245, 19, 77, 1, 0, 4175) := rfl
theorem r_34_19 : row 34 19 = some (.goto 5, 22, 24, 0, 0, 0) := rfl
theorem r_34_22 : row 34 22 = some (.bipush (-2), 24, (-2), 0, 0, 0) := rfl
theorem r_34_24 : row 34 24 = some (.ireturn, 25, 0, 0, 0, 0) := rfl
theorem r_35_0 : row 35 0 = some (.aload_n 0, 1, 0, 0, 0, 0) := rfl
theorem r_35_1 : row 35 1 = some (.getfield 19, 4, 9, 1, 2, 2159) := rfl
theorem r_35_4 : row 35 4 = some (.invokevirtual 162, 7, 252, 0, 10, 4036) := rfl
theorem r_35_7 : row 35 7 = some (.ifCond .ne 6, 10, 13, 0, 0, 0) := rfl
theorem r_35_10 : row 35 10 = some (.bipush (-2), 12, (-2), 0, 0, 0) := rfl
theorem r_35_12 : row 35 12 = some (.ireturn, 13, 0, 0, 0, 0) := rfl
theorem r_35_13 : row 35 13 = some (.iconst (-1), 14, (-1), 0, 0, 0) := rfl
theorem r_35_14 : row 35 14 = some (.istore_n 1, 15, 0, 0, 0, 0) := rfl
theorem r_35_15 : row 35 15 = some (.bipush 12, 17, 12, 0, 0, 0) := rfl
theorem r_35_17 : row 35 17 = some (.istore_n 2, 18, 0, 0, 0, 0) := rfl
theorem r_35_18 : row 35 18 = some (.iconst 0, 19, 0, 0, 0, 0) := rfl
theorem r_35_19 : row 35 19 = some (.istore_n 3, 20, 0, 0, 0, 0) := rfl
theorem r_35_20 : row 35 20 = some (.iload_n 3, 21, 0, 0, 0, 0) := rfl
theorem r_35_21 : row 35 21 = some (.aload_n 0, 22, 0, 0, 0, 0) := rfl
theorem r_35_22 : row 35 22 = some (.getfield 19, 25, 9, 1, 2, 2159) := rfl
theorem r_35_25 : row 35 25 = some (.getfield 152, 28, 3, 8, 10, 1101) := rfl
theorem r_35_28 : row 35 28 = some (.if_icmp .ge 30, 31, 58, 0, 0, 0) := rfl
theorem r_35_31 : row 35 31 = some (.aload_n 0, 32, 0, 0, 0, 0) := rfl
theorem r_35_32 : row 35 32 = some (.iload_n 3, 33, 0, 0, 0, 0) := rfl
theorem r_35_33 : row 35 33 = some (.invokevirtual 245, 36, 77, 1, 0, 4175) := rfl
theorem r_35_36 : row 35 36 = some (.invokestatic 248, 39, 78, 1, 0, 4183) := rfl
theorem r_35_39 : row 35 39 = some (.istore 4, 41, 0, 0, 0, 0) := rfl
theorem r_35_41 : row 35 41 = some (.iload 4, 43, 0, 0, 0, 0) := rfl
theorem r_35_43 : row 35 43 = some (.iload_n 2, 44, 0, 0, 0, 0) := rfl
theorem r_35_44 : row 35 44 = some (.if_icmp .ge 8, 47, 52, 0, 0, 0) := rfl
theorem r_35_47 : row 35 47 = some (.iload 4, 49, 0, 0, 0, 0) := rfl
theorem r_35_49 : row 35 49 = some (.istore_n 2, 50, 0, 0, 0, 0) := rfl
theorem r_35_50 : row 35 50 = some (.iload_n 3, 51, 0, 0, 0, 0) := rfl
theorem r_35_51 : row 35 51 = some (.istore_n 1, 52, 0, 0, 0, 0) := rfl
theorem r_35_52 : row 35 52 = some (.iinc 3 1, 55, 0, 0, 0, 0) := rfl
theorem r_35_55 : row 35 55 = some (.goto (-35), 58, 20, 0, 0, 0) := rfl
theorem r_35_58 : row 35 58 = some (.iload_n 1, 59, 0, 0, 0, 0) := rfl
theorem r_35_59 : row 35 59 = some (.ireturn, 60, 0, 0, 0, 0) := rfl
theorem r_77_0 : row 77 0 = some (.aload_n 0, 1, 0, 0, 0, 0) := rfl
theorem r_77_1 : row 77 1 = some (.getfield 43, 4, 9, 6, 2, 2164) := rfl
theorem r_77_4 : row 77 4 = some (.aload_n 0, 5, 0, 0, 0, 0) := rfl
theorem r_77_5 : row 77 5 = some (.getfield 19, 8, 9, 1, 2, 2159) := rfl
theorem r_77_8 : row 77 8 = some (.aload_n 0, 9, 0, 0, 0, 0) := rfl
theorem r_77_9 : row 77 9 = some (.getfield 33, 12, 9, 4, 2, 2162) := rfl
theorem r_77_12 : row 77 12 = some (.iload_n 1, 13, 0, 0, 0, 0) := rfl
theorem r_77_13 : row 77 13 = some (.aload_n 0, 14, 0, 0, 0, 0) := rfl
theorem r_77_14 : row 77 14 = some (.getfield 19, 17, 9, 1, 2, 2159) := rfl
theorem r_77_17 : row 77 17 = some (.iload_n 1, 18, 0, 0, 0, 0) := rfl
theorem r_77_18 : row 77 18 = some (.invokevirtual 155, 21, 258, 1, 10, 3166) := rfl
theorem r_77_21 : row 77 21 = some (.invokevirtual 255, 24, 288, 4, 10, 3170) := rfl
theorem r_77_24 : row 77 24 = some (.aload_n 0, 25, 0, 0, 0, 0) := rfl
theorem r_77_25 : row 77 25 = some (.getfield 43, 28, 9, 6, 2, 2164) := rfl
theorem r_77_28 : row 77 28 = some (.getfield 216, 31, 7, 11, 10, 2025) := rfl
theorem r_77_31 : row 77 31 = some (.ireturn, 32, 0, 0, 0, 0) := rfl
theorem r_78_0 : row 78 0 = some (.iload_n 0, 1, 0, 0, 0, 0) := rfl
theorem r_78_1 : row 78 1 = some (.iconst (-1), 2, (-1), 0, 0, 0) := rfl
theorem r_78_2 : row 78 2 = some (.if_icmp .ne 8, 5, 10, 0, 0, 0) := rfl
theorem r_78_5 : row 78 5 = some (.bipush 12, 7, 12, 0, 0, 0) := rfl
theorem r_78_7 : row 78 7 = some (.goto 4, 10, 11, 0, 0, 0) := rfl
theorem r_78_10 : row 78 10 = some (.iload_n 0, 11, 0, 0, 0, 0) := rfl
theorem r_78_11 : row 78 11 = some (.ireturn, 12, 0, 0, 0, 0) := rfl
theorem r_174_0 : row 174 0 = some (.aload_n 0, 1, 0, 0, 0, 0) := rfl
theorem r_174_1 : row 174 1 = some (.invokevirtual 324, 4, 143, 0, 0, 7082) := rfl
theorem r_174_4 : row 174 4 = some (.iconst 0, 5, 0, 0, 0, 0) := rfl
theorem r_174_5 : row 174 5 = some (.istore_n 1, 6, 0, 0, 0, 0) := rfl
theorem r_174_6 : row 174 6 = some (.iload_n 1, 7, 0, 0, 0, 0) := rfl
theorem r_174_7 : row 174 7 = some (.bipush 12, 9, 12, 0, 0, 0) := rfl
theorem r_174_9 : row 174 9 = some (.if_icmp .ge 16, 12, 25, 0, 0, 0) := rfl
theorem r_174_12 : row 174 12 = some (.aload_n 0, 13, 0, 0, 0, 0) := rfl
theorem r_174_13 : row 174 13 = some (.getfield 46, 16, 10, 19, 2, 6020) := rfl
theorem r_174_16 : row 174 16 = some (.iload_n 1, 17, 0, 0, 0, 0) := rfl
theorem r_174_17 : row 174 17 = some (.iconst 0, 18, 0, 0, 0, 0) := rfl
theorem r_174_18 : row 174 18 = some (.iastore, 19, 0, 0, 0, 0) := rfl
theorem r_174_19 : row 174 19 = some (.iinc 1 1, 22, 0, 0, 0, 0) := rfl
theorem r_174_22 : row 174 22 = some (.goto (-16), 25, 6, 0, 0, 0) := rfl
theorem r_174_25 : row 174 25 = some (.return_, 26, 0, 0, 0, 0) := rfl
theorem r_175_0 : row 175 0 = some (.aload_n 0, 1, 0, 0, 0, 0) := rfl
theorem r_175_1 : row 175 1 = some (.invokevirtual 359, 4, 174, 0, 0, 8027) := rfl
theorem r_175_4 : row 175 4 = some (.aload_n 0, 5, 0, 0, 0, 0) := rfl
theorem r_175_5 : row 175 5 = some (.aload_n 0, 6, 0, 0, 0, 0) := rfl
theorem r_175_6 : row 175 6 = some (.iload_n 1, 7, 0, 0, 0, 0) := rfl
theorem r_175_7 : row 175 7 = some (.invokevirtual 244, 10, 99, 1, 0, 7066) := rfl
theorem r_175_10 : row 175 10 = some (.iload_n 1, 11, 0, 0, 0, 0) := rfl
theorem r_175_11 : row 175 11 = some (.invokevirtual 321, 14, 144, 2, 0, 7090) := rfl
theorem r_175_14 : row 175 14 = some (.aload_n 0, 15, 0, 0, 0, 0) := rfl
theorem r_175_15 : row 175 15 = some (.getfield 293, 18, 10, 21, 0, 6022) := rfl
theorem r_175_18 : row 175 18 = some (.ireturn, 19, 0, 0, 0, 0) := rfl
theorem r_176_0 : row 176 0 = some (.aload_n 0, 1, 0, 0, 0, 0) := rfl
theorem r_176_1 : row 176 1 = some (.iload_n 1, 2, 0, 0, 0, 0) := rfl
theorem r_176_2 : row 176 2 = some (.invokevirtual 224, 5, 96, 1, 0, 7017) := rfl
theorem r_176_5 : row 176 5 = some (.ifCond .eq 11, 8, 16, 0, 0, 0) := rfl
theorem r_176_8 : row 176 8 = some (.aload_n 0, 9, 0, 0, 0, 0) := rfl
theorem r_176_9 : row 176 9 = some (.iload_n 1, 10, 0, 0, 0, 0) := rfl
theorem r_176_10 : row 176 10 = some (.invokevirtual 362, 13, 175, 1, 0, 8023) := rfl
theorem r_176_13 : row 176 13 = some (.goto 5, 16, 18, 0, 0, 0) := rfl
theorem r_176_16 : row 176 16 = some (.bipush (-2), 18, (-2), 0, 0, 0) := rfl
theorem r_176_18 : row 176 18 = some (.ireturn, 19, 0, 0, 0, 0) := rfl
theorem r_177_0 : row 177 0 = some (.aload_n 0, 1, 0, 0, 0, 0) := rfl
theorem r_177_1 : row 177 1 = some (.invokevirtual 86, 4, 90, 0, 0, 7025) := rfl
theorem r_177_4 : row 177 4 = some (.ifCond .ne 6, 7, 10, 0, 0, 0) := rfl
theorem r_177_7 : row 177 7 = some (.bipush (-2), 9, (-2), 0, 0, 0) := rfl
theorem r_177_9 : row 177 9 = some (.ireturn, 10, 0, 0, 0, 0) := rfl
theorem r_177_10 : row 177 10 = some (.iconst (-1), 11, (-1), 0, 0, 0) := rfl
theorem r_177_11 : row 177 11 = some (.istore_n 1, 12, 0, 0, 0, 0) := rfl
theorem r_177_12 : row 177 12 = some (.ldc 227, 14, 1000000000, 0, 0, 7041) := rfl
theorem r_177_14 : row 177 14 = some (.istore_n 2, 15, 0, 0, 0, 0) := rfl
theorem r_177_15 : row 177 15 = some (.iconst 0, 16, 0, 0, 0, 0) := rfl
theorem r_177_16 : row 177 16 = some (.istore_n 3, 17, 0, 0, 0, 0) := rfl
theorem r_177_17 : row 177 17 = some (.iload_n 3, 18, 0, 0, 0, 0) := rfl
theorem r_177_18 : row 177 18 = some (.aload_n 0, 19, 0, 0, 0, 0) := rfl
theorem r_177_19 : row 177 19 = some (.getfield 9, 22, 10, 1, 2, 6002) := rfl
theorem r_177_22 : row 177 22 = some (.bipush 7, 24, 7, 0, 0, 0) := rfl
theorem r_177_24 : row 177 24 = some (.iaload, 25, 0, 0, 0, 0) := rfl
theorem r_177_25 : row 177 25 = some (.if_icmp .ge 36, 28, 61, 0, 0, 0) := rfl
theorem r_177_28 : row 177 28 = some (.aload_n 0, 29, 0, 0, 0, 0) := rfl
theorem r_177_29 : row 177 29 = some (.iload_n 3, 30, 0, 0, 0, 0) := rfl
theorem r_177_30 : row 177 30 = some (.invokevirtual 362, 33, 175, 1, 0, 8023) := rfl
theorem r_177_33 : row 177 33 = some (.istore 4, 35, 0, 0, 0, 0) := rfl
theorem r_177_35 : row 177 35 = some (.iload 4, 37, 0, 0, 0, 0) := rfl
theorem r_177_37 : row 177 37 = some (.iconst (-1), 38, (-1), 0, 0, 0) := rfl
theorem r_177_38 : row 177 38 = some (.if_icmp .eq 17, 41, 55, 0, 0, 0) := rfl
theorem r_177_41 : row 177 41 = some (.iload 4, 43, 0, 0, 0, 0) := rfl
theorem r_177_43 : row 177 43 = some (.iload_n 2, 44, 0, 0, 0, 0) := rfl
theorem r_177_44 : row 177 44 = some (.if_icmp .lt 6, 47, 50, 0, 0, 0) := rfl
theorem r_177_47 : row 177 47 = some (.goto 8, 50, 55, 0, 0, 0) := rfl
theorem r_177_50 : row 177 50 = some (.iload 4, 52, 0, 0, 0, 0) := rfl
theorem r_177_52 : row 177 52 = some (.istore_n 2, 53, 0, 0, 0, 0) := rfl
theorem r_177_53 : row 177 53 = some (.iload_n 3, 54, 0, 0, 0, 0) := rfl
theorem r_177_54 : row 177 54 = some (.istore_n 1, 55, 0, 0, 0, 0) := rfl
theorem r_177_55 : row 177 55 = some (.iinc 3 1, 58, 0, 0, 0, 0) := rfl
theorem r_177_58 : row 177 58 = some (.goto (-41), 61, 17, 0, 0, 0) := rfl
theorem r_177_61 : row 177 61 = some (.iload_n 1, 62, 0, 0, 0, 0) := rfl
theorem r_177_62 : row 177 62 = some (.ireturn, 63, 0, 0, 0, 0) := rfl
theorem gx_alli {T : List Kd} {d d2 j pc : Nat} {L S : List AV} {m : Mm} {X : Type} {P0 : Int → Mm → Prop} {P : X → Int → Mm → Prop} (h0 : GX T d j pc L S m (RI P0)) (h : ∀ x : X, GX T d2 j pc L S m (RI (P x))) : GX T d j pc L S m (RI (fun v m1 => P0 v m1 ∧ ∀ x : X, P x v m1)) := by
  refine gx_imp (gx_all h0 h) (fun v m1 ⟨⟨x, e, p⟩, z⟩ => ⟨x, e, p, fun y => ?_⟩)
  obtain ⟨x2, e2, q⟩ := z y
  have e3 : (0, x) = ((0, x2) : AV) := e.symm.trans e2
  injection e3 with _ e4
  rw [e4]; exact q
/-- no acts are told by the row that is kept empty -/
def NA (m : Mm) : Prop := ∀ h : Nat, h < 12 → m 26 h = 0
theorem NA_fr {W : List Nat} {m m1 : Mm} (f : Fr W m m1) (h : W.contains 26999 = false) (n : NA m) : NA m1 := fun k hk => (f 26 k h).trans (n k hk)
/-- the hour in which it is over, if he begins on b and there are no acts -/
def endB (w : Wd) (D : Nat → Nat → Int) (b n : Nat) : Int := endF (fun h => runF w D (fun _ => 0) (beginF w (b : Int) (w (47 + 2 * b))) h 1) n
theorem endF_in (g : Nat → Int) : ∀ n : Nat, -1 ≤ endF g n ∧ endF g n < (n : Int) := by
  intro n
  induction n with
  | zero => exact ⟨(show (-1 : Int) ≤ -1 by decide), (show (-1 : Int) < 0 by decide)⟩
  | succ k ih =>
    show -1 ≤ (if ¬ g k = -1 ∧ g (k + 1) = -1 then (k : Int) else endF g k) ∧ (if ¬ g k = -1 ∧ g (k + 1) = -1 then (k : Int) else endF g k) < ((k + 1 : Nat) : Int)
    split <;> omega
/-- the bearer with the soonest end, as the class looks -/
def bestL (E : Nat → Int) : Nat → Int × Int
  | 0 => (-1, 12)
  | k + 1 => if (if E k = -1 then 12 else E k) < (bestL E k).2 then ((k : Int), if E k = -1 then 12 else E k) else bestL E k
theorem bestL_y {E : Nat → Int} {k : Nat} {x : Int} (hx : x = if E k = -1 then 12 else E k) (h : x < (bestL E k).2) : bestL E (k + 1) = ((k : Int), x) := by
  subst hx; exact if_pos h
theorem bestL_n {E : Nat → Int} {k : Nat} {x : Int} (hx : x = if E k = -1 then 12 else E k) (h : ¬ x < (bestL E k).2) : bestL E (k + 1) = bestL E k := by
  subst hx; exact if_neg h
/-- and as the reference looks -/
def bestR (E : Nat → Int) : Nat → Int × Int
  | 0 => (-1, 1000000000)
  | k + 1 => if ¬ E k = -1 ∧ E k < (bestR E k).2 then ((k : Int), E k) else bestR E k
theorem bestR_y {E : Nat → Int} {k : Nat} (h : ¬ E k = -1 ∧ E k < (bestR E k).2) : bestR E (k + 1) = ((k : Int), E k) := if_pos h
theorem bestR_n {E : Nat → Int} {k : Nat} (h : ¬ (¬ E k = -1 ∧ E k < (bestR E k).2)) : bestR E (k + 1) = bestR E k := if_neg h
theorem best_LR {E F : Nat → Int} : ∀ k : Nat, (∀ i : Nat, i < k → E i = F i ∧ -1 ≤ E i ∧ E i ≤ 11) → (bestL E k).1 = (bestR F k).1 ∧ (((bestL E k).2 = 12 ∧ (bestR F k).2 = 1000000000) ∨ ((bestL E k).2 = (bestR F k).2 ∧ (bestR F k).2 ≤ 11)) := by
  intro k
  induction k with
  | zero => intro _; exact ⟨rfl, Or.inl ⟨rfl, rfl⟩⟩
  | succ k ih =>
    intro e
    obtain ⟨i1, i2⟩ := ih (fun i hi => e i (by omega))
    obtain ⟨e1, e2, e3⟩ := e k (by omega)
    by_cases c : E k = -1
    · rw [bestL_n (x := 12) (by rw [if_pos c]) (by omega), bestR_n (by omega)]
      exact ⟨i1, i2⟩
    · by_cases d : E k < (bestL E k).2
      · rw [bestL_y (x := E k) (by rw [if_neg c]) d, bestR_y ⟨by omega, by omega⟩]
        exact ⟨rfl, Or.inr ⟨e1, by show F k ≤ 11; omega⟩⟩
      · rw [bestL_n (x := E k) (by rw [if_neg c]) d, bestR_n (by omega)]
        exact ⟨i1, i2⟩
section FROM
variable {T : List Kd} {m : Mm}
theorem stT_41 (hT : TT T) : StT T 41 := ⟨StoryT_of hT rfl, RideT_of hT rfl⟩
theorem stR_41 (hp : PinR m) : StR m 41 := ⟨StoryR_of hp rfl, RideR_of hp rfl⟩
theorem wbf_pw (hm : Gam m) : WBf (pw (m 193)) := by
  have b2 := gb_193_2 hm
  exact ⟨by rw [pw_at (by decide) (by decide)]; exact b2, fun t ht _ => by rw [pw_at (by omega) (by omega)]; exact gb_193_tf hm ht⟩
theorem k_77 (hT : TT T) (hp : PinR m) (na : NA m) {w : Wd} (hw : WD m 4 w) (hb : WBf w) {D : Nat → Nat → Int} (hD : WyD w D) {n : Nat} (hn : w 1 = (n : Int)) (hn12 : n ≤ 12) {b : Nat} (hb7 : (b : Int) < w 7) : GX T 5 77 0 [(2, 1), (0, (b : Int))] [] m (RI (fun v m1 => v = endB w D b n)) := by
  have b7 := hw.2.1.2.2.2.2.1
  refine gx_st (L' := [(2, 1), (0, (b : Int))]) (S' := [(2, 1)]) r_77_0 rfl rfl rfl ?_
  refine gx_gf (x := 41) 2 r_77_1 (rfl) (ty_1 hT) ⟨by decide, rfl, by decide, by decide⟩ rfl (fun _ => by omega) (pin_at hp (t := 41) rfl (by decide)) ?_
  refine gx_st (L' := [(2, 1), (0, (b : Int))]) (S' := [(2, 1), (2, 41)]) r_77_4 rfl rfl rfl ?_
  refine gx_gf (x := 4) 2 r_77_5 (rfl) (ty_1 hT) ⟨by decide, rfl, by decide, by decide⟩ rfl (fun _ => by omega) (pin_at hp (t := 4) rfl (by decide)) ?_
  refine gx_st (L' := [(2, 1), (0, (b : Int))]) (S' := [(2, 1), (2, 4), (2, 41)]) r_77_8 rfl rfl rfl ?_
  refine gx_gf (x := 25) 2 r_77_9 (rfl) (ty_1 hT) ⟨by decide, rfl, by decide, by decide⟩ rfl (fun _ => by omega) (pin_at hp (t := 25) rfl (by decide)) ?_
  refine gx_st (L' := [(2, 1), (0, (b : Int))]) (S' := [(0, (b : Int)), (2, 25), (2, 4), (2, 41)]) r_77_12 rfl rfl rfl ?_
  refine gx_st (L' := [(2, 1), (0, (b : Int))]) (S' := [(2, 1), (0, (b : Int)), (2, 25), (2, 4), (2, 41)]) r_77_13 rfl rfl rfl ?_
  refine gx_gf (x := 4) 2 r_77_14 (rfl) (ty_1 hT) ⟨by decide, rfl, by decide, by decide⟩ rfl (fun _ => by omega) (pin_at hp (t := 4) rfl (by decide)) ?_
  refine gx_st (L' := [(2, 1), (0, (b : Int))]) (S' := [(0, (b : Int)), (2, 4), (0, (b : Int)), (2, 25), (2, 4), (2, 41)]) r_77_17 rfl rfl rfl ?_
  refine gx_ci (nx := 21) (S2 := [(0, (b : Int)), (2, 25), (2, 4), (2, 41)]) (z_258 hT hp (k := b) (by omega)) r_77_18 rfl rfl rfl rfl rfl (rcv_v rfl (ty_4 hT) (by decide) rfl (by decide)) rfl (by decide) rfl (fun x18 n18 q18 => ?_)
  obtain ⟨e_x18, z_x18⟩ := q18
  obtain rfl := z_x18.symm
  rw [e_x18, (wd_bear hw hb7).1]
  show GX T 5 77 21 [(2, 1), (0, (b : Int))] [(0, (w (47 + 2 * b))), (0, (b : Int)), (2, 25), (2, 4), (2, 41)] m (RI (fun v m1 => v = endB w D b n))
  have hA : ∀ h : Nat, h < 12 → 0 ≤ m 26 h ∧ m 26 h ≤ 16 := fun h hh => by rw [na h hh]; decide
  have pl := hw.2.2.2.2.2 b (by omega) hb7
  have hS : SB w (beginF w (b : Int) (w (47 + 2 * b))) 0 := sb_begin hb.1 hb.2 (by omega) (fun _ => ⟨pl.1, pl.2.1⟩)
  refine gx_cv (nx := 24) (S2 := []) (z_288 hT (IsleT_of hT rfl) (IsleR_of hp rfl) hw (stT_41 hT) (ActsT_of hT rfl) (ActsR_of hp rfl) (by decide) (by decide) hD hA hn hn12 (stR_41 hp) hS) r_77_21 rfl rfl rfl rfl rfl (rcv_v rfl (ty_41 hT) (by decide) rfl (by decide)) rfl (by decide) rfl (fun n21 q21 => ?_)
  obtain ⟨sd, fs⟩ := q21
  show GX T 5 77 24 [(2, 1), (0, (b : Int))] [] n21 (RI (fun v m1 => v = endB w D b n))
  refine gx_st (L' := [(2, 1), (0, (b : Int))]) (S' := [(2, 1)]) r_77_24 rfl rfl rfl ?_
  refine gx_gf (x := 41) 2 r_77_25 (rfl) (ty_1 hT) ⟨by decide, rfl, by decide, by decide⟩ rfl (fun _ => by omega) ((fs 1 6 (by decide)).trans (pin_at hp (t := 41) rfl (by decide))) ?_
  have he : n21 41 11 = endB w D b n := sd.1.2.2.2.2.trans (end_cA n (fun h hh => by rw [run_cA h (fun i hi => na i (by omega))]))
  refine gx_gf (x := (endB w D b n)) 0 r_77_28 (rfl) (ty_41 hT) ⟨by decide, rfl, by decide, by decide⟩ rfl (fun z => absurd z (by decide)) (he) ?_
  exact gx_rt r_77_31 rfl rfl ⟨_, rfl, rfl⟩
set_option maxRecDepth 100000 in
theorem cu_77 : conL[361]? = some (77, [(2, 1, 0), (0, (-2147483648), 2147483647)], (0, (-2147483648), 2147483647), [41010, 41011, 41012, 41013, 42000, 42001, 42002, 42003, 42004, 42005, 42006, 42007, 43999, 44999, 45999, 46999, 47999, 48999, 49999, 50999, 51999, 52999, 53999], 5) := rfl
theorem pu_77 (hT : TT T) : ConH T (77, [(2, 1, 0), (0, (-2147483648), 2147483647)], (0, (-2147483648), 2147483647), [41010, 41011, 41012, 41013, 42000, 42001, 42002, 42003, 42004, 42005, 42006, 42007, 43999, 44999, 45999, 46999, 47999, 48999, 49999, 50999, 51999, 52999, 53999], 5) := fun args m => ((all_con hT 361).1 (by decide)) _ cu_77 args m
theorem gq_o1z : gq0 (2, 1, 0) (2, 1) := (gq_2 rfl).mpr ⟨rfl, by decide, by decide, by decide⟩
/-- what the class answers, whatever lengths of ways are taken -/
theorem z_77 (hT : TT T) (hp : PinR m) (hm : Gam m) (hx : Ext m) (r : WX m) (na : NA m) {n : Nat} (hn : m 193 1 = (n : Int)) {b : Nat} (hb7 : (b : Int) < m 193 7) : GX T 5 77 0 [(2, 1), (0, (b : Int))] [] m (RI (fun v m1 => ((PinR m1 ∧ Gam m1 ∧ Ext m1 ∧ WX m1 ∧ NA m1) ∧ m1 193 = m 193) ∧ ∀ D : {D : Nat → Nat → Int // WyD (m 193) D}, v = endB (pw (m 193)) D.1 b n)) := by
  have b1 := gb_193_1 hm
  have b7 := gb_193_7 hm
  have c := gx_hi (args := [(2, 1), (0, (b : Int))]) (pu_77 hT) ⟨gq_o1z, gq_any (by omega) (by omega), trivial⟩ hm rfl
  exact gx_alli (gx_imp (gx_d c (by decide)) (fun v m1 ⟨x, e, _, _, g, f⟩ => ⟨x, e, ⟨PinR_fr f (by decide) hp, g, Ext_fr f (by decide) hx, WX_fr f (by decide) r, NA_fr f rfl na⟩, funext (Fr_cell (o := 193) f (by decide) (by decide))⟩)) (fun D => k_77 hT hp na (WD_w r.1 (pw_ag (m 193))) (wbf_pw hm) (wyD_pw.mpr D.2) (by rw [pw_at (by decide) (by decide)]; exact hn) (by omega) (by rw [pw_at (by decide) (by decide)]; exact hb7))
/-- the end is the same by whatever lengths of ways -/
theorem end_u (hT : TT T) (hp : PinR m) (hm : Gam m) (hx : Ext m) (r : WX m) (na : NA m) {n : Nat} (hn : m 193 1 = (n : Int)) {b : Nat} (hb7 : (b : Int) < m 193 7) {D1 D2 : Nat → Nat → Int} (h1 : WyD (m 193) D1) (h2 : WyD (m 193) D2) : endB (pw (m 193)) D1 b n = endB (pw (m 193)) D2 b n := by
  obtain ⟨v, m1, _, x, _, _, z⟩ := z_77 hT hp hm hx r na hn hb7
  exact (z ⟨D1, h1⟩).symm.trans (z ⟨D2, h2⟩)
theorem z_34 (hT : TT T) (hp : PinR m) (hm : Gam m) (hx : Ext m) (r : WX m) (na : NA m) {n : Nat} (hn : m 193 1 = (n : Int)) (a : Int) : GX T 6 34 0 [(2, 1), (0, a)] [] m (RI (fun v m1 => (¬ (0 ≤ a ∧ a < m 4 8) → v = -2) ∧ ∀ b : Nat, a = (b : Int) → (0 ≤ a ∧ a < m 4 8) → ∀ D : Nat → Nat → Int, WyD (m 193) D → v = endB (pw (m 193)) D b n)) := by
  have e48 : m 4 8 = m 193 7 := r.1.1.2.2.2.2.2.2.2.2.1
  refine gx_st (L' := [(2, 1), (0, a)]) (S' := [(0, a)]) r_34_0 rfl rfl rfl ?_
  refine gx_st (L' := [(2, 1), (0, a)]) (S' := [(2, 1), (0, a)]) r_34_1 rfl rfl rfl ?_
  refine gx_gf (x := 4) 2 r_34_2 (rfl) (ty_1 hT) ⟨by decide, rfl, by decide, by decide⟩ rfl (fun _ => by omega) (pin_at hp (t := 4) rfl (by decide)) ?_
  refine gx_gf (x := (m 4 8)) 0 r_34_5 (rfl) (ty_4 hT) ⟨by decide, rfl, by decide, by decide⟩ rfl (fun z => absurd z (by decide)) (rfl) ?_
  refine gx_ci (nx := 11) (S2 := []) (x_71 a (m 4 8)) r_34_8 rfl rfl rfl rfl rfl rfl rfl (by decide) rfl (fun x8 n8 q8 => ?_)
  obtain rfl := q8.1.symm
  obtain rfl := q8.2.symm
  show GX T 6 34 11 [(2, 1), (0, a)] [(0, (if 0 ≤ a ∧ a < (m 4 8) then 1 else 0))] m (RI (fun v m1 => (¬ (0 ≤ a ∧ a < m 4 8) → v = -2) ∧ ∀ b : Nat, a = (b : Int) → (0 ≤ a ∧ a < m 4 8) → ∀ D : Nat → Nat → Int, WyD (m 193) D → v = endB (pw (m 193)) D b n))
  refine gx_i0 (P := ¬ (0 ≤ a ∧ a < (m 4 8))) r_34_11 (b01_eq) (fun h11 => ?_) (fun h11 => ?_)
  · refine gx_st (L' := [(2, 1), (0, a)]) (S' := [(0, (-2))]) r_34_22 rfl rfl rfl ?_
    exact gx_rt r_34_24 rfl rfl ⟨_, rfl, fun _ => rfl, fun b e z => (by exfalso; omega)⟩
  · have h11 := Decidable.not_not.mp h11
    obtain ⟨ii, h_ii⟩ : ∃ i : Nat, a = (i : Int) := ⟨a.toNat, by omega⟩
    rw [h_ii]
    refine gx_st (L' := [(2, 1), (0, (ii : Int))]) (S' := [(2, 1)]) r_34_14 rfl rfl rfl ?_
    refine gx_st (L' := [(2, 1), (0, (ii : Int))]) (S' := [(0, (ii : Int)), (2, 1)]) r_34_15 rfl rfl rfl ?_
    refine gx_ci (nx := 19) (S2 := []) (z_77 hT hp hm hx r na hn (b := ii) (by omega)) r_34_16 rfl rfl rfl rfl rfl (rcv_v rfl (ty_1 hT) (by decide) rfl (by decide)) rfl (by decide) rfl (fun x16 n16 q16 => ?_)
    obtain ⟨_, zD⟩ := q16
    show GX T 6 34 19 [(2, 1), (0, (ii : Int))] [(0, x16)] n16 (RI (fun v m1 => (¬ (0 ≤ (ii : Int) ∧ (ii : Int) < m 4 8) → v = -2) ∧ ∀ b : Nat, (ii : Int) = (b : Int) → (0 ≤ (ii : Int) ∧ (ii : Int) < m 4 8) → ∀ D : Nat → Nat → Int, WyD (m 193) D → v = endB (pw (m 193)) D b n))
    refine gx_st (L' := [(2, 1), (0, (ii : Int))]) (S' := [(0, x16)]) r_34_19 rfl rfl rfl ?_
    exact gx_rt r_34_24 rfl rfl ⟨_, rfl, fun z => absurd z (by omega), fun b e z D hD => by rw [show b = ii by omega]; exact zD ⟨D, hD⟩⟩
theorem l_78 (h : Int) : GX T 0 78 0 [(0, h)] [] m (RI (fun v m1 => v = (if h = -1 then 12 else h) ∧ m1 = m)) := by
  refine gx_st (L' := [(0, h)]) (S' := [(0, h)]) r_78_0 rfl rfl rfl ?_
  refine gx_st (L' := [(0, h)]) (S' := [(0, (-1)), (0, h)]) r_78_1 rfl rfl rfl ?_
  refine gx_ic (P := ¬ h = (-1)) r_78_2 (rfl) (fun h2 => ?_) (fun h2 => ?_)
  · refine gx_st (L' := [(0, h)]) (S' := [(0, h)]) r_78_10 rfl rfl rfl ?_
    exact gx_rt r_78_11 rfl rfl ⟨_, rfl, by rw [if_neg (by omega)], rfl⟩
  · have h2 := Decidable.not_not.mp h2
    refine gx_st (L' := [(0, h)]) (S' := [(0, 12)]) r_78_5 rfl rfl rfl ?_
    refine gx_st (L' := [(0, h)]) (S' := [(0, 12)]) r_78_7 rfl rfl rfl ?_
    exact gx_rt r_78_11 rfl rfl ⟨_, rfl, by rw [if_pos (by omega)], rfl⟩
theorem lb_l (hT : TT T) {w0 : Nat → Int} {D0 : Nat → Nat → Int} (hD0 : WyD w0 D0) {n c : Nat} (hn : w0 1 = (n : Int)) (hc : w0 7 = (c : Int)) (hc5 : c ≤ 5) : ∀ (N k : Nat) (p : Mm) (x4 : AV), c - k < N → k ≤ c → PinR p → Gam p → Ext p → WX p → NA p → p 193 = w0 → GX T 6 35 20 [(2, 1), (0, ((bestL (fun b => endB (pw w0) D0 b n) k).1)), (0, ((bestL (fun b => endB (pw w0) D0 b n) k).2)), (0, (k : Int)), x4] [] p (RI (fun v m1 => v = (bestL (fun b => endB (pw w0) D0 b n) c).1)) := by
  intro N
  induction N with
  | zero => intro k p x4 hN; exact absurd hN (Nat.not_lt_zero _)
  | succ N ih =>
    intro k p x4 hN hk hp hm hx r na e193
    have e48 : p 4 8 = (c : Int) := by rw [r.1.1.2.2.2.2.2.2.2.2.1, e193]; exact hc
    refine gx_st (L' := [(2, 1), (0, ((bestL (fun b => endB (pw w0) D0 b n) k).1)), (0, ((bestL (fun b => endB (pw w0) D0 b n) k).2)), (0, (k : Int)), x4]) (S' := [(0, (k : Int))]) r_35_20 rfl rfl rfl ?_
    refine gx_st (L' := [(2, 1), (0, ((bestL (fun b => endB (pw w0) D0 b n) k).1)), (0, ((bestL (fun b => endB (pw w0) D0 b n) k).2)), (0, (k : Int)), x4]) (S' := [(2, 1), (0, (k : Int))]) r_35_21 rfl rfl rfl ?_
    refine gx_gf (x := 4) 2 r_35_22 (rfl) (ty_1 hT) ⟨by decide, rfl, by decide, by decide⟩ rfl (fun _ => by omega) (pin_at hp (t := 4) rfl (by decide)) ?_
    refine gx_gf (x := (c : Int)) 0 r_35_25 (rfl) (ty_4 hT) ⟨by decide, rfl, by decide, by decide⟩ rfl (fun z => absurd z (by decide)) (e48) ?_
    refine gx_ic (P := (c : Int) ≤ (k : Int)) r_35_28 (rfl) (fun h28 => ?_) (fun h28 => ?_)
    · refine gx_st (L' := [(2, 1), (0, ((bestL (fun b => endB (pw w0) D0 b n) k).1)), (0, ((bestL (fun b => endB (pw w0) D0 b n) k).2)), (0, (k : Int)), x4]) (S' := [(0, ((bestL (fun b => endB (pw w0) D0 b n) k).1))]) r_35_58 rfl rfl rfl ?_
      have hkn : k = c := by omega
      subst hkn
      exact gx_rt r_35_59 rfl rfl ⟨_, rfl, rfl⟩
    · refine gx_st (L' := [(2, 1), (0, ((bestL (fun b => endB (pw w0) D0 b n) k).1)), (0, ((bestL (fun b => endB (pw w0) D0 b n) k).2)), (0, (k : Int)), x4]) (S' := [(2, 1)]) r_35_31 rfl rfl rfl ?_
      refine gx_st (L' := [(2, 1), (0, ((bestL (fun b => endB (pw w0) D0 b n) k).1)), (0, ((bestL (fun b => endB (pw w0) D0 b n) k).2)), (0, (k : Int)), x4]) (S' := [(0, (k : Int)), (2, 1)]) r_35_32 rfl rfl rfl ?_
      refine gx_ci (nx := 36) (S2 := []) (z_77 hT hp hm hx r na (n := n) (by rw [e193]; exact hn) (b := k) (by rw [e193]; omega)) r_35_33 rfl rfl rfl rfl rfl (rcv_v rfl (ty_1 hT) (by decide) rfl (by decide)) rfl (by decide) rfl (fun x33 n33 q33 => ?_)
      obtain ⟨⟨⟨p1, p2, p3, p4, p5⟩, e2⟩, zD⟩ := q33
      have e3 := e2.trans e193
      have ze : x33 = endB (pw (p 193)) D0 k n := zD ⟨D0, by rw [e193]; exact hD0⟩
      rw [e193] at ze
      show GX T 6 35 36 [(2, 1), (0, ((bestL (fun b => endB (pw w0) D0 b n) k).1)), (0, ((bestL (fun b => endB (pw w0) D0 b n) k).2)), (0, (k : Int)), x4] [(0, x33)] n33 (RI (fun v m1 => v = (bestL (fun b => endB (pw w0) D0 b n) c).1))
      refine gx_ci (nx := 39) (S2 := []) (l_78 x33) r_35_36 rfl rfl rfl rfl rfl rfl rfl (by decide) rfl (fun x36 n36 q36 => ?_)
      obtain ⟨e_x36, z_x36⟩ := q36
      obtain rfl := z_x36.symm
      rw [ze] at e_x36
      show GX T 6 35 39 [(2, 1), (0, ((bestL (fun b => endB (pw w0) D0 b n) k).1)), (0, ((bestL (fun b => endB (pw w0) D0 b n) k).2)), (0, (k : Int)), x4] [(0, x36)] n33 (RI (fun v m1 => v = (bestL (fun b => endB (pw w0) D0 b n) c).1))
      refine gx_st (L' := [(2, 1), (0, ((bestL (fun b => endB (pw w0) D0 b n) k).1)), (0, ((bestL (fun b => endB (pw w0) D0 b n) k).2)), (0, (k : Int)), (0, x36)]) (S' := []) r_35_39 rfl rfl rfl ?_
      refine gx_st (L' := [(2, 1), (0, ((bestL (fun b => endB (pw w0) D0 b n) k).1)), (0, ((bestL (fun b => endB (pw w0) D0 b n) k).2)), (0, (k : Int)), (0, x36)]) (S' := [(0, x36)]) r_35_41 rfl rfl rfl ?_
      refine gx_st (L' := [(2, 1), (0, ((bestL (fun b => endB (pw w0) D0 b n) k).1)), (0, ((bestL (fun b => endB (pw w0) D0 b n) k).2)), (0, (k : Int)), (0, x36)]) (S' := [(0, ((bestL (fun b => endB (pw w0) D0 b n) k).2)), (0, x36)]) r_35_43 rfl rfl rfl ?_
      refine gx_ic (P := ((bestL (fun b => endB (pw w0) D0 b n) k).2) ≤ x36) r_35_44 (rfl) (fun h44 => ?_) (fun h44 => ?_)
      · refine gx_li (z := (k : Int) + 1) (L' := [(2, 1), (0, ((bestL (fun b => endB (pw w0) D0 b n) k).1)), (0, ((bestL (fun b => endB (pw w0) D0 b n) k).2)), (0, (k : Int) + 1), (0, x36)]) r_35_52 rfl (w32_eq (by omega) (by omega) (by omega)) rfl ?_
        refine gx_st (L' := [(2, 1), (0, ((bestL (fun b => endB (pw w0) D0 b n) k).1)), (0, ((bestL (fun b => endB (pw w0) D0 b n) k).2)), (0, (k : Int) + 1), (0, x36)]) (S' := []) r_35_55 rfl rfl rfl ?_
        rw [show (k : Int) + 1 = ((k + 1 : Nat) : Int) from rfl]
        have z := ih (k + 1) n33 (0, x36) (by omega) (by omega) p1 p2 p3 p4 p5 e3
        rw [bestL_n (E := fun b => endB (pw w0) D0 b n) (x := x36) e_x36 (by omega)] at z
        exact z
      · refine gx_st (L' := [(2, 1), (0, ((bestL (fun b => endB (pw w0) D0 b n) k).1)), (0, ((bestL (fun b => endB (pw w0) D0 b n) k).2)), (0, (k : Int)), (0, x36)]) (S' := [(0, x36)]) r_35_47 rfl rfl rfl ?_
        refine gx_st (L' := [(2, 1), (0, ((bestL (fun b => endB (pw w0) D0 b n) k).1)), (0, x36), (0, (k : Int)), (0, x36)]) (S' := []) r_35_49 rfl rfl rfl ?_
        refine gx_st (L' := [(2, 1), (0, ((bestL (fun b => endB (pw w0) D0 b n) k).1)), (0, x36), (0, (k : Int)), (0, x36)]) (S' := [(0, (k : Int))]) r_35_50 rfl rfl rfl ?_
        refine gx_st (L' := [(2, 1), (0, (k : Int)), (0, x36), (0, (k : Int)), (0, x36)]) (S' := []) r_35_51 rfl rfl rfl ?_
        refine gx_li (z := (k : Int) + 1) (L' := [(2, 1), (0, (k : Int)), (0, x36), (0, (k : Int) + 1), (0, x36)]) r_35_52 rfl (w32_eq (by omega) (by omega) (by omega)) rfl ?_
        refine gx_st (L' := [(2, 1), (0, (k : Int)), (0, x36), (0, (k : Int) + 1), (0, x36)]) (S' := []) r_35_55 rfl rfl rfl ?_
        rw [show (k : Int) + 1 = ((k + 1 : Nat) : Int) from rfl]
        have z := ih (k + 1) n33 (0, x36) (by omega) (by omega) p1 p2 p3 p4 p5 e3
        rw [bestL_y (E := fun b => endB (pw w0) D0 b n) (x := x36) e_x36 (by omega)] at z
        exact z
theorem z_35 (hT : TT T) (hp : PinR m) (hm : Gam m) (hx : Ext m) (r : WX m) (na : NA m) {n : Nat} (hn : m 193 1 = (n : Int)) {D0 : Nat → Nat → Int} (hD0 : WyD (m 193) D0) : GX T 7 35 0 [(2, 1), (9, 0), (9, 0), (9, 0), (9, 0)] [] m (RI (fun v m1 => (¬ 0 < m 4 0 → v = -2) ∧ ∀ c : Nat, m 193 7 = (c : Int) → 0 < m 4 0 → v = (bestL (fun b => endB (pw (m 193)) D0 b n) c).1)) := by
  refine gx_st (L' := [(2, 1), (9, 0), (9, 0), (9, 0), (9, 0)]) (S' := [(2, 1)]) r_35_0 rfl rfl rfl ?_
  refine gx_gf (x := 4) 2 r_35_1 (rfl) (ty_1 hT) ⟨by decide, rfl, by decide, by decide⟩ rfl (fun _ => by omega) (pin_at hp (t := 4) rfl (by decide)) ?_
  refine gx_ci (nx := 7) (S2 := []) (x_252 hT) r_35_4 rfl rfl rfl rfl rfl (rcv_v rfl (ty_4 hT) (by decide) rfl (by decide)) rfl (by decide) rfl (fun x4 n4 q4 => ?_)
  obtain rfl := q4.1.symm
  obtain rfl := q4.2.symm
  show GX T 7 35 7 [(2, 1), (9, 0), (9, 0), (9, 0), (9, 0)] [(0, (if 0 < m 4 0 then 1 else 0))] m (RI (fun v m1 => (¬ 0 < m 4 0 → v = -2) ∧ ∀ c : Nat, m 193 7 = (c : Int) → 0 < m 4 0 → v = (bestL (fun b => endB (pw (m 193)) D0 b n) c).1))
  refine gx_i0 (P := 0 < m 4 0) r_35_7 (b01_ne) (fun h7 => ?_) (fun h7 => ?_)
  · refine gx_st (L' := [(2, 1), (9, 0), (9, 0), (9, 0), (9, 0)]) (S' := [(0, (-1))]) r_35_13 rfl rfl rfl ?_
    refine gx_st (L' := [(2, 1), (0, (-1)), (9, 0), (9, 0), (9, 0)]) (S' := []) r_35_14 rfl rfl rfl ?_
    refine gx_st (L' := [(2, 1), (0, (-1)), (9, 0), (9, 0), (9, 0)]) (S' := [(0, 12)]) r_35_15 rfl rfl rfl ?_
    refine gx_st (L' := [(2, 1), (0, (-1)), (0, 12), (9, 0), (9, 0)]) (S' := []) r_35_17 rfl rfl rfl ?_
    refine gx_st (L' := [(2, 1), (0, (-1)), (0, 12), (9, 0), (9, 0)]) (S' := [(0, 0)]) r_35_18 rfl rfl rfl ?_
    refine gx_st (L' := [(2, 1), (0, (-1)), (0, 12), (0, 0), (9, 0)]) (S' := []) r_35_19 rfl rfl rfl ?_
    have b7 := gb_193_7 hm
    exact gx_imp (gx_d (lb_l hT hD0 hn (c := (m 193 7).toNat) (by omega) (by omega) ((m 193 7).toNat + 1) 0 m (9, 0) (by omega) (by omega) hp hm hx r na rfl) (by decide)) (fun v m1 ⟨x, e, q⟩ => ⟨x, e, fun z => absurd h7 z, fun c2 e2 z => by rw [show c2 = (m 193 7).toNat by omega]; exact q⟩)
  · refine gx_st (L' := [(2, 1), (9, 0), (9, 0), (9, 0), (9, 0)]) (S' := [(0, (-2))]) r_35_10 rfl rfl rfl ?_
    exact gx_rt r_35_12 rfl rfl ⟨_, rfl, fun _ => rfl, fun c e z => absurd z h7⟩
theorem v_174 (hT : TT T) (hp : PinR m) (hm : Gam m) (hx : Ext m) : GX T 4 174 0 [(2, 192), (9, 0)] [] m (RV (fun m1 => AsF m1 ∧ ∀ h : Nat, h < 12 → m1 203 h = 0)) := by
  refine gx_st (L' := [(2, 192), (9, 0)]) (S' := [(2, 192)]) r_174_0 rfl rfl rfl ?_
  refine gx_cv (nx := 4) (S2 := []) (y_143 hT hp hm hx) r_174_1 rfl rfl rfl rfl rfl (rcv_v rfl (ty_192 hT) (by decide) rfl (by decide)) rfl (by decide) rfl (fun n1 q1 => ?_)
  obtain ⟨⟨a1, a2⟩, gm1, gx1, f1, fs1⟩ := q1
  have hp1 : PinR n1 := PinR_fr f1 (by decide) hp
  show GX T 4 174 4 [(2, 192), (9, 0)] [] n1 (RV (fun m1 => AsF m1 ∧ ∀ h : Nat, h < 12 → m1 203 h = 0))
  refine gx_st (L' := [(2, 192), (9, 0)]) (S' := [(0, 0)]) r_174_4 rfl rfl rfl ?_
  refine gx_st (L' := [(2, 192), (0, 0)]) (S' := []) r_174_5 rfl rfl rfl ?_
  refine gx_st (L' := [(2, 192), (0, 0)]) (S' := [(0, 0)]) r_174_6 rfl rfl rfl ?_
  refine gx_st (L' := [(2, 192), (0, 0)]) (S' := [(0, 12), (0, 0)]) r_174_7 rfl rfl rfl ?_
  refine gx_ic (P := 12 ≤ 0) r_174_9 (rfl) (fun h9 => ?_) (fun h9 => ?_)
  · omega
  · refine gx_st (L' := [(2, 192), (0, 0)]) (S' := [(2, 192)]) r_174_12 rfl rfl rfl ?_
    refine gx_gf (x := 203) 2 r_174_13 (rfl) (ty_192 hT) ⟨by decide, rfl, by decide, by decide⟩ rfl (fun _ => by omega) (pin_at hp1 (t := 203) rfl (by decide)) ?_
    refine gx_st (L' := [(2, 192), (0, 0)]) (S' := [(0, 0), (2, 203)]) r_174_16 rfl rfl rfl ?_
    refine gx_st (L' := [(2, 192), (0, 0)]) (S' := [(0, 0), (0, 0), (2, 203)]) r_174_17 rfl rfl rfl ?_
    obtain ⟨m1, e_m1⟩ : ∃ z, z = nu_up n1 203 0 0 := ⟨_, rfl⟩
    refine gx_is (n := 0) (x := 0) r_174_18 (rfl) (by omega) (ty_203 hT) (rfl) ⟨rfl, by decide⟩ e_m1.symm ?_
    refine gx_li (z := 1) (L' := [(2, 192), (0, 1)]) r_174_19 rfl (w32_eq (by omega) (by omega) (by omega)) rfl ?_
    refine gx_st (L' := [(2, 192), (0, 1)]) (S' := []) r_174_22 rfl rfl rfl ?_
    refine gx_st (L' := [(2, 192), (0, 1)]) (S' := [(0, 1)]) r_174_6 rfl rfl rfl ?_
    refine gx_st (L' := [(2, 192), (0, 1)]) (S' := [(0, 12), (0, 1)]) r_174_7 rfl rfl rfl ?_
    refine gx_ic (P := 12 ≤ 1) r_174_9 (rfl) (fun h9 => ?_) (fun h9 => ?_)
    · omega
    · refine gx_st (L' := [(2, 192), (0, 1)]) (S' := [(2, 192)]) r_174_12 rfl rfl rfl ?_
      refine gx_gf (x := 203) 2 r_174_13 (rfl) (ty_192 hT) ⟨by decide, rfl, by decide, by decide⟩ rfl (fun _ => by omega) (by show m1 192 19 = _; rw [e_m1, nu_no (by decide)]; exact pin_at hp1 (t := 203) rfl (by decide)) ?_
      refine gx_st (L' := [(2, 192), (0, 1)]) (S' := [(0, 1), (2, 203)]) r_174_16 rfl rfl rfl ?_
      refine gx_st (L' := [(2, 192), (0, 1)]) (S' := [(0, 0), (0, 1), (2, 203)]) r_174_17 rfl rfl rfl ?_
      obtain ⟨m2, e_m2⟩ : ∃ z, z = nu_up m1 203 1 0 := ⟨_, rfl⟩
      refine gx_is (n := 1) (x := 0) r_174_18 (rfl) (by omega) (ty_203 hT) (rfl) ⟨rfl, by decide⟩ e_m2.symm ?_
      refine gx_li (z := 2) (L' := [(2, 192), (0, 2)]) r_174_19 rfl (w32_eq (by omega) (by omega) (by omega)) rfl ?_
      refine gx_st (L' := [(2, 192), (0, 2)]) (S' := []) r_174_22 rfl rfl rfl ?_
      refine gx_st (L' := [(2, 192), (0, 2)]) (S' := [(0, 2)]) r_174_6 rfl rfl rfl ?_
      refine gx_st (L' := [(2, 192), (0, 2)]) (S' := [(0, 12), (0, 2)]) r_174_7 rfl rfl rfl ?_
      refine gx_ic (P := 12 ≤ 2) r_174_9 (rfl) (fun h9 => ?_) (fun h9 => ?_)
      · omega
      · refine gx_st (L' := [(2, 192), (0, 2)]) (S' := [(2, 192)]) r_174_12 rfl rfl rfl ?_
        refine gx_gf (x := 203) 2 r_174_13 (rfl) (ty_192 hT) ⟨by decide, rfl, by decide, by decide⟩ rfl (fun _ => by omega) (by show m2 192 19 = _; rw [e_m2, nu_no (by decide), e_m1, nu_no (by decide)]; exact pin_at hp1 (t := 203) rfl (by decide)) ?_
        refine gx_st (L' := [(2, 192), (0, 2)]) (S' := [(0, 2), (2, 203)]) r_174_16 rfl rfl rfl ?_
        refine gx_st (L' := [(2, 192), (0, 2)]) (S' := [(0, 0), (0, 2), (2, 203)]) r_174_17 rfl rfl rfl ?_
        obtain ⟨m3, e_m3⟩ : ∃ z, z = nu_up m2 203 2 0 := ⟨_, rfl⟩
        refine gx_is (n := 2) (x := 0) r_174_18 (rfl) (by omega) (ty_203 hT) (rfl) ⟨rfl, by decide⟩ e_m3.symm ?_
        refine gx_li (z := 3) (L' := [(2, 192), (0, 3)]) r_174_19 rfl (w32_eq (by omega) (by omega) (by omega)) rfl ?_
        refine gx_st (L' := [(2, 192), (0, 3)]) (S' := []) r_174_22 rfl rfl rfl ?_
        refine gx_st (L' := [(2, 192), (0, 3)]) (S' := [(0, 3)]) r_174_6 rfl rfl rfl ?_
        refine gx_st (L' := [(2, 192), (0, 3)]) (S' := [(0, 12), (0, 3)]) r_174_7 rfl rfl rfl ?_
        refine gx_ic (P := 12 ≤ 3) r_174_9 (rfl) (fun h9 => ?_) (fun h9 => ?_)
        · omega
        · refine gx_st (L' := [(2, 192), (0, 3)]) (S' := [(2, 192)]) r_174_12 rfl rfl rfl ?_
          refine gx_gf (x := 203) 2 r_174_13 (rfl) (ty_192 hT) ⟨by decide, rfl, by decide, by decide⟩ rfl (fun _ => by omega) (by show m3 192 19 = _; rw [e_m3, nu_no (by decide), e_m2, nu_no (by decide), e_m1, nu_no (by decide)]; exact pin_at hp1 (t := 203) rfl (by decide)) ?_
          refine gx_st (L' := [(2, 192), (0, 3)]) (S' := [(0, 3), (2, 203)]) r_174_16 rfl rfl rfl ?_
          refine gx_st (L' := [(2, 192), (0, 3)]) (S' := [(0, 0), (0, 3), (2, 203)]) r_174_17 rfl rfl rfl ?_
          obtain ⟨m4, e_m4⟩ : ∃ z, z = nu_up m3 203 3 0 := ⟨_, rfl⟩
          refine gx_is (n := 3) (x := 0) r_174_18 (rfl) (by omega) (ty_203 hT) (rfl) ⟨rfl, by decide⟩ e_m4.symm ?_
          refine gx_li (z := 4) (L' := [(2, 192), (0, 4)]) r_174_19 rfl (w32_eq (by omega) (by omega) (by omega)) rfl ?_
          refine gx_st (L' := [(2, 192), (0, 4)]) (S' := []) r_174_22 rfl rfl rfl ?_
          refine gx_st (L' := [(2, 192), (0, 4)]) (S' := [(0, 4)]) r_174_6 rfl rfl rfl ?_
          refine gx_st (L' := [(2, 192), (0, 4)]) (S' := [(0, 12), (0, 4)]) r_174_7 rfl rfl rfl ?_
          refine gx_ic (P := 12 ≤ 4) r_174_9 (rfl) (fun h9 => ?_) (fun h9 => ?_)
          · omega
          · refine gx_st (L' := [(2, 192), (0, 4)]) (S' := [(2, 192)]) r_174_12 rfl rfl rfl ?_
            refine gx_gf (x := 203) 2 r_174_13 (rfl) (ty_192 hT) ⟨by decide, rfl, by decide, by decide⟩ rfl (fun _ => by omega) (by show m4 192 19 = _; rw [e_m4, nu_no (by decide), e_m3, nu_no (by decide), e_m2, nu_no (by decide), e_m1, nu_no (by decide)]; exact pin_at hp1 (t := 203) rfl (by decide)) ?_
            refine gx_st (L' := [(2, 192), (0, 4)]) (S' := [(0, 4), (2, 203)]) r_174_16 rfl rfl rfl ?_
            refine gx_st (L' := [(2, 192), (0, 4)]) (S' := [(0, 0), (0, 4), (2, 203)]) r_174_17 rfl rfl rfl ?_
            obtain ⟨m5, e_m5⟩ : ∃ z, z = nu_up m4 203 4 0 := ⟨_, rfl⟩
            refine gx_is (n := 4) (x := 0) r_174_18 (rfl) (by omega) (ty_203 hT) (rfl) ⟨rfl, by decide⟩ e_m5.symm ?_
            refine gx_li (z := 5) (L' := [(2, 192), (0, 5)]) r_174_19 rfl (w32_eq (by omega) (by omega) (by omega)) rfl ?_
            refine gx_st (L' := [(2, 192), (0, 5)]) (S' := []) r_174_22 rfl rfl rfl ?_
            refine gx_st (L' := [(2, 192), (0, 5)]) (S' := [(0, 5)]) r_174_6 rfl rfl rfl ?_
            refine gx_st (L' := [(2, 192), (0, 5)]) (S' := [(0, 12), (0, 5)]) r_174_7 rfl rfl rfl ?_
            refine gx_ic (P := 12 ≤ 5) r_174_9 (rfl) (fun h9 => ?_) (fun h9 => ?_)
            · omega
            · refine gx_st (L' := [(2, 192), (0, 5)]) (S' := [(2, 192)]) r_174_12 rfl rfl rfl ?_
              refine gx_gf (x := 203) 2 r_174_13 (rfl) (ty_192 hT) ⟨by decide, rfl, by decide, by decide⟩ rfl (fun _ => by omega) (by show m5 192 19 = _; rw [e_m5, nu_no (by decide), e_m4, nu_no (by decide), e_m3, nu_no (by decide), e_m2, nu_no (by decide), e_m1, nu_no (by decide)]; exact pin_at hp1 (t := 203) rfl (by decide)) ?_
              refine gx_st (L' := [(2, 192), (0, 5)]) (S' := [(0, 5), (2, 203)]) r_174_16 rfl rfl rfl ?_
              refine gx_st (L' := [(2, 192), (0, 5)]) (S' := [(0, 0), (0, 5), (2, 203)]) r_174_17 rfl rfl rfl ?_
              obtain ⟨m6, e_m6⟩ : ∃ z, z = nu_up m5 203 5 0 := ⟨_, rfl⟩
              refine gx_is (n := 5) (x := 0) r_174_18 (rfl) (by omega) (ty_203 hT) (rfl) ⟨rfl, by decide⟩ e_m6.symm ?_
              refine gx_li (z := 6) (L' := [(2, 192), (0, 6)]) r_174_19 rfl (w32_eq (by omega) (by omega) (by omega)) rfl ?_
              refine gx_st (L' := [(2, 192), (0, 6)]) (S' := []) r_174_22 rfl rfl rfl ?_
              refine gx_st (L' := [(2, 192), (0, 6)]) (S' := [(0, 6)]) r_174_6 rfl rfl rfl ?_
              refine gx_st (L' := [(2, 192), (0, 6)]) (S' := [(0, 12), (0, 6)]) r_174_7 rfl rfl rfl ?_
              refine gx_ic (P := 12 ≤ 6) r_174_9 (rfl) (fun h9 => ?_) (fun h9 => ?_)
              · omega
              · refine gx_st (L' := [(2, 192), (0, 6)]) (S' := [(2, 192)]) r_174_12 rfl rfl rfl ?_
                refine gx_gf (x := 203) 2 r_174_13 (rfl) (ty_192 hT) ⟨by decide, rfl, by decide, by decide⟩ rfl (fun _ => by omega) (by show m6 192 19 = _; rw [e_m6, nu_no (by decide), e_m5, nu_no (by decide), e_m4, nu_no (by decide), e_m3, nu_no (by decide), e_m2, nu_no (by decide), e_m1, nu_no (by decide)]; exact pin_at hp1 (t := 203) rfl (by decide)) ?_
                refine gx_st (L' := [(2, 192), (0, 6)]) (S' := [(0, 6), (2, 203)]) r_174_16 rfl rfl rfl ?_
                refine gx_st (L' := [(2, 192), (0, 6)]) (S' := [(0, 0), (0, 6), (2, 203)]) r_174_17 rfl rfl rfl ?_
                obtain ⟨m7, e_m7⟩ : ∃ z, z = nu_up m6 203 6 0 := ⟨_, rfl⟩
                refine gx_is (n := 6) (x := 0) r_174_18 (rfl) (by omega) (ty_203 hT) (rfl) ⟨rfl, by decide⟩ e_m7.symm ?_
                refine gx_li (z := 7) (L' := [(2, 192), (0, 7)]) r_174_19 rfl (w32_eq (by omega) (by omega) (by omega)) rfl ?_
                refine gx_st (L' := [(2, 192), (0, 7)]) (S' := []) r_174_22 rfl rfl rfl ?_
                refine gx_st (L' := [(2, 192), (0, 7)]) (S' := [(0, 7)]) r_174_6 rfl rfl rfl ?_
                refine gx_st (L' := [(2, 192), (0, 7)]) (S' := [(0, 12), (0, 7)]) r_174_7 rfl rfl rfl ?_
                refine gx_ic (P := 12 ≤ 7) r_174_9 (rfl) (fun h9 => ?_) (fun h9 => ?_)
                · omega
                · refine gx_st (L' := [(2, 192), (0, 7)]) (S' := [(2, 192)]) r_174_12 rfl rfl rfl ?_
                  refine gx_gf (x := 203) 2 r_174_13 (rfl) (ty_192 hT) ⟨by decide, rfl, by decide, by decide⟩ rfl (fun _ => by omega) (by show m7 192 19 = _; rw [e_m7, nu_no (by decide), e_m6, nu_no (by decide), e_m5, nu_no (by decide), e_m4, nu_no (by decide), e_m3, nu_no (by decide), e_m2, nu_no (by decide), e_m1, nu_no (by decide)]; exact pin_at hp1 (t := 203) rfl (by decide)) ?_
                  refine gx_st (L' := [(2, 192), (0, 7)]) (S' := [(0, 7), (2, 203)]) r_174_16 rfl rfl rfl ?_
                  refine gx_st (L' := [(2, 192), (0, 7)]) (S' := [(0, 0), (0, 7), (2, 203)]) r_174_17 rfl rfl rfl ?_
                  obtain ⟨m8, e_m8⟩ : ∃ z, z = nu_up m7 203 7 0 := ⟨_, rfl⟩
                  refine gx_is (n := 7) (x := 0) r_174_18 (rfl) (by omega) (ty_203 hT) (rfl) ⟨rfl, by decide⟩ e_m8.symm ?_
                  refine gx_li (z := 8) (L' := [(2, 192), (0, 8)]) r_174_19 rfl (w32_eq (by omega) (by omega) (by omega)) rfl ?_
                  refine gx_st (L' := [(2, 192), (0, 8)]) (S' := []) r_174_22 rfl rfl rfl ?_
                  refine gx_st (L' := [(2, 192), (0, 8)]) (S' := [(0, 8)]) r_174_6 rfl rfl rfl ?_
                  refine gx_st (L' := [(2, 192), (0, 8)]) (S' := [(0, 12), (0, 8)]) r_174_7 rfl rfl rfl ?_
                  refine gx_ic (P := 12 ≤ 8) r_174_9 (rfl) (fun h9 => ?_) (fun h9 => ?_)
                  · omega
                  · refine gx_st (L' := [(2, 192), (0, 8)]) (S' := [(2, 192)]) r_174_12 rfl rfl rfl ?_
                    refine gx_gf (x := 203) 2 r_174_13 (rfl) (ty_192 hT) ⟨by decide, rfl, by decide, by decide⟩ rfl (fun _ => by omega) (by show m8 192 19 = _; rw [e_m8, nu_no (by decide), e_m7, nu_no (by decide), e_m6, nu_no (by decide), e_m5, nu_no (by decide), e_m4, nu_no (by decide), e_m3, nu_no (by decide), e_m2, nu_no (by decide), e_m1, nu_no (by decide)]; exact pin_at hp1 (t := 203) rfl (by decide)) ?_
                    refine gx_st (L' := [(2, 192), (0, 8)]) (S' := [(0, 8), (2, 203)]) r_174_16 rfl rfl rfl ?_
                    refine gx_st (L' := [(2, 192), (0, 8)]) (S' := [(0, 0), (0, 8), (2, 203)]) r_174_17 rfl rfl rfl ?_
                    obtain ⟨m9, e_m9⟩ : ∃ z, z = nu_up m8 203 8 0 := ⟨_, rfl⟩
                    refine gx_is (n := 8) (x := 0) r_174_18 (rfl) (by omega) (ty_203 hT) (rfl) ⟨rfl, by decide⟩ e_m9.symm ?_
                    refine gx_li (z := 9) (L' := [(2, 192), (0, 9)]) r_174_19 rfl (w32_eq (by omega) (by omega) (by omega)) rfl ?_
                    refine gx_st (L' := [(2, 192), (0, 9)]) (S' := []) r_174_22 rfl rfl rfl ?_
                    refine gx_st (L' := [(2, 192), (0, 9)]) (S' := [(0, 9)]) r_174_6 rfl rfl rfl ?_
                    refine gx_st (L' := [(2, 192), (0, 9)]) (S' := [(0, 12), (0, 9)]) r_174_7 rfl rfl rfl ?_
                    refine gx_ic (P := 12 ≤ 9) r_174_9 (rfl) (fun h9 => ?_) (fun h9 => ?_)
                    · omega
                    · refine gx_st (L' := [(2, 192), (0, 9)]) (S' := [(2, 192)]) r_174_12 rfl rfl rfl ?_
                      refine gx_gf (x := 203) 2 r_174_13 (rfl) (ty_192 hT) ⟨by decide, rfl, by decide, by decide⟩ rfl (fun _ => by omega) (by show m9 192 19 = _; rw [e_m9, nu_no (by decide), e_m8, nu_no (by decide), e_m7, nu_no (by decide), e_m6, nu_no (by decide), e_m5, nu_no (by decide), e_m4, nu_no (by decide), e_m3, nu_no (by decide), e_m2, nu_no (by decide), e_m1, nu_no (by decide)]; exact pin_at hp1 (t := 203) rfl (by decide)) ?_
                      refine gx_st (L' := [(2, 192), (0, 9)]) (S' := [(0, 9), (2, 203)]) r_174_16 rfl rfl rfl ?_
                      refine gx_st (L' := [(2, 192), (0, 9)]) (S' := [(0, 0), (0, 9), (2, 203)]) r_174_17 rfl rfl rfl ?_
                      obtain ⟨m10, e_m10⟩ : ∃ z, z = nu_up m9 203 9 0 := ⟨_, rfl⟩
                      refine gx_is (n := 9) (x := 0) r_174_18 (rfl) (by omega) (ty_203 hT) (rfl) ⟨rfl, by decide⟩ e_m10.symm ?_
                      refine gx_li (z := 10) (L' := [(2, 192), (0, 10)]) r_174_19 rfl (w32_eq (by omega) (by omega) (by omega)) rfl ?_
                      refine gx_st (L' := [(2, 192), (0, 10)]) (S' := []) r_174_22 rfl rfl rfl ?_
                      refine gx_st (L' := [(2, 192), (0, 10)]) (S' := [(0, 10)]) r_174_6 rfl rfl rfl ?_
                      refine gx_st (L' := [(2, 192), (0, 10)]) (S' := [(0, 12), (0, 10)]) r_174_7 rfl rfl rfl ?_
                      refine gx_ic (P := 12 ≤ 10) r_174_9 (rfl) (fun h9 => ?_) (fun h9 => ?_)
                      · omega
                      · refine gx_st (L' := [(2, 192), (0, 10)]) (S' := [(2, 192)]) r_174_12 rfl rfl rfl ?_
                        refine gx_gf (x := 203) 2 r_174_13 (rfl) (ty_192 hT) ⟨by decide, rfl, by decide, by decide⟩ rfl (fun _ => by omega) (by show m10 192 19 = _; rw [e_m10, nu_no (by decide), e_m9, nu_no (by decide), e_m8, nu_no (by decide), e_m7, nu_no (by decide), e_m6, nu_no (by decide), e_m5, nu_no (by decide), e_m4, nu_no (by decide), e_m3, nu_no (by decide), e_m2, nu_no (by decide), e_m1, nu_no (by decide)]; exact pin_at hp1 (t := 203) rfl (by decide)) ?_
                        refine gx_st (L' := [(2, 192), (0, 10)]) (S' := [(0, 10), (2, 203)]) r_174_16 rfl rfl rfl ?_
                        refine gx_st (L' := [(2, 192), (0, 10)]) (S' := [(0, 0), (0, 10), (2, 203)]) r_174_17 rfl rfl rfl ?_
                        obtain ⟨m11, e_m11⟩ : ∃ z, z = nu_up m10 203 10 0 := ⟨_, rfl⟩
                        refine gx_is (n := 10) (x := 0) r_174_18 (rfl) (by omega) (ty_203 hT) (rfl) ⟨rfl, by decide⟩ e_m11.symm ?_
                        refine gx_li (z := 11) (L' := [(2, 192), (0, 11)]) r_174_19 rfl (w32_eq (by omega) (by omega) (by omega)) rfl ?_
                        refine gx_st (L' := [(2, 192), (0, 11)]) (S' := []) r_174_22 rfl rfl rfl ?_
                        refine gx_st (L' := [(2, 192), (0, 11)]) (S' := [(0, 11)]) r_174_6 rfl rfl rfl ?_
                        refine gx_st (L' := [(2, 192), (0, 11)]) (S' := [(0, 12), (0, 11)]) r_174_7 rfl rfl rfl ?_
                        refine gx_ic (P := 12 ≤ 11) r_174_9 (rfl) (fun h9 => ?_) (fun h9 => ?_)
                        · omega
                        · refine gx_st (L' := [(2, 192), (0, 11)]) (S' := [(2, 192)]) r_174_12 rfl rfl rfl ?_
                          refine gx_gf (x := 203) 2 r_174_13 (rfl) (ty_192 hT) ⟨by decide, rfl, by decide, by decide⟩ rfl (fun _ => by omega) (by show m11 192 19 = _; rw [e_m11, nu_no (by decide), e_m10, nu_no (by decide), e_m9, nu_no (by decide), e_m8, nu_no (by decide), e_m7, nu_no (by decide), e_m6, nu_no (by decide), e_m5, nu_no (by decide), e_m4, nu_no (by decide), e_m3, nu_no (by decide), e_m2, nu_no (by decide), e_m1, nu_no (by decide)]; exact pin_at hp1 (t := 203) rfl (by decide)) ?_
                          refine gx_st (L' := [(2, 192), (0, 11)]) (S' := [(0, 11), (2, 203)]) r_174_16 rfl rfl rfl ?_
                          refine gx_st (L' := [(2, 192), (0, 11)]) (S' := [(0, 0), (0, 11), (2, 203)]) r_174_17 rfl rfl rfl ?_
                          obtain ⟨m12, e_m12⟩ : ∃ z, z = nu_up m11 203 11 0 := ⟨_, rfl⟩
                          refine gx_is (n := 11) (x := 0) r_174_18 (rfl) (by omega) (ty_203 hT) (rfl) ⟨rfl, by decide⟩ e_m12.symm ?_
                          refine gx_li (z := 12) (L' := [(2, 192), (0, 12)]) r_174_19 rfl (w32_eq (by omega) (by omega) (by omega)) rfl ?_
                          refine gx_st (L' := [(2, 192), (0, 12)]) (S' := []) r_174_22 rfl rfl rfl ?_
                          refine gx_st (L' := [(2, 192), (0, 12)]) (S' := [(0, 12)]) r_174_6 rfl rfl rfl ?_
                          refine gx_st (L' := [(2, 192), (0, 12)]) (S' := [(0, 12), (0, 12)]) r_174_7 rfl rfl rfl ?_
                          refine gx_ic (P := 12 ≤ 12) r_174_9 (rfl) (fun h9 => ?_) (fun h9 => ?_)
                          · have z0 : m12 203 0 = 0 := by rw [e_m12, nu_ne (by decide), e_m11, nu_ne (by decide), e_m10, nu_ne (by decide), e_m9, nu_ne (by decide), e_m8, nu_ne (by decide), e_m7, nu_ne (by decide), e_m6, nu_ne (by decide), e_m5, nu_ne (by decide), e_m4, nu_ne (by decide), e_m3, nu_ne (by decide), e_m2, nu_ne (by decide), e_m1, nu_at]
                            have z1 : m12 203 1 = 0 := by rw [e_m12, nu_ne (by decide), e_m11, nu_ne (by decide), e_m10, nu_ne (by decide), e_m9, nu_ne (by decide), e_m8, nu_ne (by decide), e_m7, nu_ne (by decide), e_m6, nu_ne (by decide), e_m5, nu_ne (by decide), e_m4, nu_ne (by decide), e_m3, nu_ne (by decide), e_m2, nu_at]
                            have z2 : m12 203 2 = 0 := by rw [e_m12, nu_ne (by decide), e_m11, nu_ne (by decide), e_m10, nu_ne (by decide), e_m9, nu_ne (by decide), e_m8, nu_ne (by decide), e_m7, nu_ne (by decide), e_m6, nu_ne (by decide), e_m5, nu_ne (by decide), e_m4, nu_ne (by decide), e_m3, nu_at]
                            have z3 : m12 203 3 = 0 := by rw [e_m12, nu_ne (by decide), e_m11, nu_ne (by decide), e_m10, nu_ne (by decide), e_m9, nu_ne (by decide), e_m8, nu_ne (by decide), e_m7, nu_ne (by decide), e_m6, nu_ne (by decide), e_m5, nu_ne (by decide), e_m4, nu_at]
                            have z4 : m12 203 4 = 0 := by rw [e_m12, nu_ne (by decide), e_m11, nu_ne (by decide), e_m10, nu_ne (by decide), e_m9, nu_ne (by decide), e_m8, nu_ne (by decide), e_m7, nu_ne (by decide), e_m6, nu_ne (by decide), e_m5, nu_at]
                            have z5 : m12 203 5 = 0 := by rw [e_m12, nu_ne (by decide), e_m11, nu_ne (by decide), e_m10, nu_ne (by decide), e_m9, nu_ne (by decide), e_m8, nu_ne (by decide), e_m7, nu_ne (by decide), e_m6, nu_at]
                            have z6 : m12 203 6 = 0 := by rw [e_m12, nu_ne (by decide), e_m11, nu_ne (by decide), e_m10, nu_ne (by decide), e_m9, nu_ne (by decide), e_m8, nu_ne (by decide), e_m7, nu_at]
                            have z7 : m12 203 7 = 0 := by rw [e_m12, nu_ne (by decide), e_m11, nu_ne (by decide), e_m10, nu_ne (by decide), e_m9, nu_ne (by decide), e_m8, nu_at]
                            have z8 : m12 203 8 = 0 := by rw [e_m12, nu_ne (by decide), e_m11, nu_ne (by decide), e_m10, nu_ne (by decide), e_m9, nu_at]
                            have z9 : m12 203 9 = 0 := by rw [e_m12, nu_ne (by decide), e_m11, nu_ne (by decide), e_m10, nu_at]
                            have z10 : m12 203 10 = 0 := by rw [e_m12, nu_ne (by decide), e_m11, nu_at]
                            have z11 : m12 203 11 = 0 := by rw [e_m12, nu_at]
                            have zz : ∀ h : Nat, h < 12 → m12 203 h = 0 := fun h hh => by
                              have hh2 : h = 0 ∨ h = 1 ∨ h = 2 ∨ h = 3 ∨ h = 4 ∨ h = 5 ∨ h = 6 ∨ h = 7 ∨ h = 8 ∨ h = 9 ∨ h = 10 ∨ h = 11 := by omega
                              rcases hh2 with rfl | rfl | rfl | rfl | rfl | rfl | rfl | rfl | rfl | rfl | rfl | rfl
                              · exact z0
                              · exact z1
                              · exact z2
                              · exact z3
                              · exact z4
                              · exact z5
                              · exact z6
                              · exact z7
                              · exact z8
                              · exact z9
                              · exact z10
                              · exact z11
                            exact gx_rt r_174_25 rfl rfl ⟨rfl, ⟨by rw [e_m12, nu_x (by omega), e_m11, nu_x (by omega), e_m10, nu_x (by omega), e_m9, nu_x (by omega), e_m8, nu_x (by omega), e_m7, nu_x (by omega), e_m6, nu_x (by omega), e_m5, nu_x (by omega), e_m4, nu_x (by omega), e_m3, nu_x (by omega), e_m2, nu_x (by omega), e_m1, nu_x (by omega)]; exact a1.1, by rw [e_m12, nu_x (by omega), e_m11, nu_x (by omega), e_m10, nu_x (by omega), e_m9, nu_x (by omega), e_m8, nu_x (by omega), e_m7, nu_x (by omega), e_m6, nu_x (by omega), e_m5, nu_x (by omega), e_m4, nu_x (by omega), e_m3, nu_x (by omega), e_m2, nu_x (by omega), e_m1, nu_x (by omega)]; exact a1.2.1, by rw [e_m12, nu_x (by omega), e_m11, nu_x (by omega), e_m10, nu_x (by omega), e_m9, nu_x (by omega), e_m8, nu_x (by omega), e_m7, nu_x (by omega), e_m6, nu_x (by omega), e_m5, nu_x (by omega), e_m4, nu_x (by omega), e_m3, nu_x (by omega), e_m2, nu_x (by omega), e_m1, nu_x (by omega)]; exact a1.2.2.1, by rw [e_m12, nu_x (by omega), e_m11, nu_x (by omega), e_m10, nu_x (by omega), e_m9, nu_x (by omega), e_m8, nu_x (by omega), e_m7, nu_x (by omega), e_m6, nu_x (by omega), e_m5, nu_x (by omega), e_m4, nu_x (by omega), e_m3, nu_x (by omega), e_m2, nu_x (by omega), e_m1, nu_x (by omega)]; exact a1.2.2.2.1, by rw [e_m12, nu_x (by omega), e_m11, nu_x (by omega), e_m10, nu_x (by omega), e_m9, nu_x (by omega), e_m8, nu_x (by omega), e_m7, nu_x (by omega), e_m6, nu_x (by omega), e_m5, nu_x (by omega), e_m4, nu_x (by omega), e_m3, nu_x (by omega), e_m2, nu_x (by omega), e_m1, nu_x (by omega)]; exact a1.2.2.2.2⟩, zz⟩
                          · omega
set_option maxRecDepth 100000 in
theorem cu_174 : conL[8]? = some (174, [(2, 90, 0)], (9, 0, 0), [90021, 90022, 90023, 90024, 90025, 90026, 90027, 97999, 101999, 102999], 4) := rfl
set_option maxRecDepth 100000 in
theorem pu_174 (hT : TT T) : ConX T (174, [(2, 90, 0)], (9, 0, 0), [90021, 90022, 90023, 90024, 90025, 90026, 90027, 97999, 101999, 102999], 4) false true := by
  have z := ((all_con hT 8).2 (by decide)) _ cu_174
  rw [show (Fl 8).2 = (false, true) by decide] at z
  exact z
theorem y_174 (hT : TT T) (hp : PinR m) (hm : Gam m) (hx : Ext m) : GX T 4 174 0 [(2, 192), (9, 0)] [] m (RV (fun m1 => (AsF m1 ∧ ∀ h : Nat, h < 12 → m1 203 h = 0) ∧ PinR m1 ∧ Gam m1 ∧ Ext m1 ∧ FS m1 ∧ m1 193 = m 193)) :=
  gx_imp (gx_av (v_174 hT hp hm hx) (gx_xv (args := [(2, 192)]) (pu_174 hT) ⟨gq_o192, trivial⟩ hm hx (fun z => absurd z (by decide)) rfl)) (fun v m1 ⟨e, a, g, y, f, s⟩ => ⟨e, a, PinR_fr f (by decide) hp, g, y, s rfl, funext (Fr_cell (o := 193) f (by decide) (by decide))⟩)
theorem v_175 (hT : TT T) (hp : PinR m) (hm : Gam m) (hx : Ext m) (wb : WB (pw (m 193))) (wp : WP (pw (m 193))) {n : Nat} (hn : m 193 1 = (n : Int)) {b : Nat} (hb7 : (b : Int) < m 193 7) : GX T 7 175 0 [(2, 192), (0, (b : Int))] [] m (RI (fun v m1 => ∃ D : Nat → Nat → Int, WyD (m 193) D ∧ v = endB (pw (m 193)) D b n)) := by
  have b1 := gb_193_1 hm
  have b7 := gb_193_7 hm
  refine gx_st (L' := [(2, 192), (0, (b : Int))]) (S' := [(2, 192)]) r_175_0 rfl rfl rfl ?_
  refine gx_cv (nx := 4) (S2 := []) (y_174 hT hp hm hx) r_175_1 rfl rfl rfl rfl rfl (rcv_v rfl (ty_192 hT) (by decide) rfl (by decide)) rfl (by decide) rfl (fun n1 q1 => ?_)
  obtain ⟨⟨a1, a2⟩, hp1, gm1, gx1, fs1, e193⟩ := q1
  show GX T 7 175 4 [(2, 192), (0, (b : Int))] [] n1 (RI (fun v m1 => ∃ D : Nat → Nat → Int, WyD (m 193) D ∧ v = endB (pw (m 193)) D b n))
  refine gx_st (L' := [(2, 192), (0, (b : Int))]) (S' := [(2, 192)]) r_175_4 rfl rfl rfl ?_
  refine gx_st (L' := [(2, 192), (0, (b : Int))]) (S' := [(2, 192), (2, 192)]) r_175_5 rfl rfl rfl ?_
  refine gx_st (L' := [(2, 192), (0, (b : Int))]) (S' := [(0, (b : Int)), (2, 192), (2, 192)]) r_175_6 rfl rfl rfl ?_
  refine gx_ci (nx := 10) (S2 := [(2, 192)]) (l_99 hT hp1 (k := b) (by omega)) r_175_7 rfl rfl rfl rfl rfl (rcv_v rfl (ty_192 hT) (by decide) rfl (by decide)) rfl (by decide) rfl (fun x7 n7 q7 => ?_)
  obtain ⟨e_x7, z_x7⟩ := q7
  obtain rfl := z_x7.symm
  rw [e_x7, e193]
  show GX T 7 175 10 [(2, 192), (0, (b : Int))] [(0, (m 193 (47 + 2 * b))), (2, 192)] n1 (RI (fun v m1 => ∃ D : Nat → Nat → Int, WyD (m 193) D ∧ v = endB (pw (m 193)) D b n))
  refine gx_st (L' := [(2, 192), (0, (b : Int))]) (S' := [(0, (b : Int)), (0, (m 193 (47 + 2 * b))), (2, 192)]) r_175_10 rfl rfl rfl ?_
  have hw1 : WyD (pw (m 193)) (fun x y => n1 199 (7 * x + y)) := by
    rw [wyD_pw, ← e193]; exact fs1
  have ea := ew_as gm1 a1
  rw [e193] at ea
  have pl := wp.2.2 b (by omega) (by rw [pw_at (by decide) (by decide)]; exact hb7)
  have hS : SB (pw (m 193)) (beginF (pw (m 193)) (b : Int) (pw (m 193) (47 + 2 * b))) 0 := sb_begin (wbf_pw hm).1 (wbf_pw hm).2 (by omega) (fun _ => ⟨pl.1, pl.2.1⟩)
  have bg : BegS (pw (m 193)) (beginF (pw (m 193)) (b : Int) (pw (m 193) (47 + 2 * b))) (m 193 (47 + 2 * b)) (b : Int) := by
    have z := begS_of (pw (m 193)) (b : Int) (pw (m 193) (47 + 2 * b))
    rw [if_pos (by rw [pw_at (by decide) (by decide)]; exact hb7), if_pos (by rw [pw_at (by decide) (by decide)]; exact hb7), pw_at (i := 47 + 2 * b) (by omega) (by omega)] at z
    rw [pw_at (i := 47 + 2 * b) (by omega) (by omega)]; exact z
  refine gx_cv (nx := 14) (S2 := []) (y_144 hT hp1 wb ea wp (D := fun x y => n1 199 (7 * x + y)) (fun _ _ _ _ => rfl) hw1 (fun h hh => by rw [a2 h hh]; decide) (n := n) (by rw [pw_at (by decide) (by decide)]; exact hn) (by omega) hS (by show (0 : Int) ≤ 20; decide) (fun t ht _ => by omega) bg) r_175_11 rfl rfl rfl rfl rfl (rcv_v rfl (ty_192 hT) (by decide) rfl (by decide)) rfl (by decide) rfl (fun n11 q11 => ?_)
  obtain ⟨r2, fg2⟩ := q11
  have e21 : n11 192 21 = endB (pw (m 193)) (fun x y => n1 199 (7 * x + y)) b n := r2.2.2.1.trans (end_cA n (fun h hh => by rw [run_cA h (fun i hi => a2 i (by omega))]))
  show GX T 7 175 14 [(2, 192), (0, (b : Int))] [] n11 (RI (fun v m1 => ∃ D : Nat → Nat → Int, WyD (m 193) D ∧ v = endB (pw (m 193)) D b n))
  refine gx_st (L' := [(2, 192), (0, (b : Int))]) (S' := [(2, 192)]) r_175_14 rfl rfl rfl ?_
  refine gx_gf (x := (endB (pw (m 193)) (fun x y => n1 199 (7 * x + y)) b n)) 0 r_175_15 (rfl) (ty_192 hT) ⟨by decide, rfl, by decide, by decide⟩ rfl (fun z => absurd z (by decide)) (e21) ?_
  exact gx_rt r_175_18 rfl rfl ⟨_, rfl, _, wyD_pw.mp hw1, rfl⟩
set_option maxRecDepth 100000 in
theorem cu_175 : conL[879]? = some (175, [(2, 90, 0), (0, 0, 4)], (0, (-2147483648), 2147483647), [90021, 90022, 90023, 90024, 90025, 90026, 90027, 97999, 98999, 99999, 100999, 101999, 102999], 9) := rfl
set_option maxRecDepth 100000 in
theorem pu_175 (hT : TT T) : ConX T (175, [(2, 90, 0), (0, 0, 4)], (0, (-2147483648), 2147483647), [90021, 90022, 90023, 90024, 90025, 90026, 90027, 97999, 98999, 99999, 100999, 101999, 102999], 9) false true := by
  have z := ((all_con hT 879).2 (by decide)) _ cu_175
  rw [show (Fl 879).2 = (false, true) by decide] at z
  exact z
theorem y_175 (hT : TT T) (hp : PinR m) (hm : Gam m) (hx : Ext m) (wb : WB (pw (m 193))) (wp : WP (pw (m 193))) {n : Nat} (hn : m 193 1 = (n : Int)) {b : Nat} (hb7 : (b : Int) < m 193 7) : GX T 7 175 0 [(2, 192), (0, (b : Int))] [] m (RI (fun v m1 => (∃ D : Nat → Nat → Int, WyD (m 193) D ∧ v = endB (pw (m 193)) D b n) ∧ PinR m1 ∧ Gam m1 ∧ Ext m1 ∧ m1 193 = m 193)) := by
  have b7 := gb_193_7 hm
  exact gx_imp (gx_ai (v_175 hT hp hm hx wb wp hn hb7) (gx_xi (args := [(2, 192), (0, (b : Int))]) (pu_175 hT) ⟨gq_o192, gq_any (by omega) (by omega), trivial⟩ hm hx (fun z => absurd z (by decide)) rfl)) (fun v m1 ⟨x, e, a, _, _, g, y, f, _⟩ => ⟨x, e, a, PinR_fr f (by decide) hp, g, y, funext (Fr_cell (o := 193) f (by decide) (by decide))⟩)
theorem y_176 (hT : TT T) (hp : PinR m) (hm : Gam m) (hx : Ext m) (wb : WB (pw (m 193))) (wp : WP (pw (m 193))) {n : Nat} (hn : m 193 1 = (n : Int)) (a : Int) : GX T 8 176 0 [(2, 192), (0, a)] [] m (RI (fun v m1 => (¬ (0 ≤ a ∧ a < m 193 7) → v = -2) ∧ ∀ b : Nat, a = (b : Int) → (0 ≤ a ∧ a < m 193 7) → ∃ D : Nat → Nat → Int, WyD (m 193) D ∧ v = endB (pw (m 193)) D b n)) := by
  refine gx_st (L' := [(2, 192), (0, a)]) (S' := [(2, 192)]) r_176_0 rfl rfl rfl ?_
  refine gx_st (L' := [(2, 192), (0, a)]) (S' := [(0, a), (2, 192)]) r_176_1 rfl rfl rfl ?_
  refine gx_ci (nx := 5) (S2 := []) (x_96 hT hm a) r_176_2 rfl rfl rfl rfl rfl (rcv_v rfl (ty_192 hT) (by decide) rfl (by decide)) rfl (by decide) rfl (fun x2 n2 q2 => ?_)
  obtain rfl := q2.1.symm
  obtain rfl := q2.2.symm
  show GX T 8 176 5 [(2, 192), (0, a)] [(0, (if 0 ≤ a ∧ a ≤ m 193 7 - 1 then 1 else 0))] m (RI (fun v m1 => (¬ (0 ≤ a ∧ a < m 193 7) → v = -2) ∧ ∀ b : Nat, a = (b : Int) → (0 ≤ a ∧ a < m 193 7) → ∃ D : Nat → Nat → Int, WyD (m 193) D ∧ v = endB (pw (m 193)) D b n))
  refine gx_i0 (P := ¬ (0 ≤ a ∧ a ≤ m 193 7 - 1)) r_176_5 (b01_eq) (fun h5 => ?_) (fun h5 => ?_)
  · refine gx_st (L' := [(2, 192), (0, a)]) (S' := [(0, (-2))]) r_176_16 rfl rfl rfl ?_
    exact gx_rt r_176_18 rfl rfl ⟨_, rfl, fun _ => rfl, fun b e z => (by exfalso; omega)⟩
  · have h5 := Decidable.not_not.mp h5
    obtain ⟨ii, h_ii⟩ : ∃ i : Nat, a = (i : Int) := ⟨a.toNat, by omega⟩
    rw [h_ii]
    refine gx_st (L' := [(2, 192), (0, (ii : Int))]) (S' := [(2, 192)]) r_176_8 rfl rfl rfl ?_
    refine gx_st (L' := [(2, 192), (0, (ii : Int))]) (S' := [(0, (ii : Int)), (2, 192)]) r_176_9 rfl rfl rfl ?_
    refine gx_ci (nx := 13) (S2 := []) (y_175 hT hp hm hx wb wp hn (b := ii) (by omega)) r_176_10 rfl rfl rfl rfl rfl (rcv_v rfl (ty_192 hT) (by decide) rfl (by decide)) rfl (by decide) rfl (fun x10 n10 q10 => ?_)
    obtain ⟨⟨D, hD, hv⟩, _⟩ := q10
    show GX T 8 176 13 [(2, 192), (0, (ii : Int))] [(0, x10)] n10 (RI (fun v m1 => (¬ (0 ≤ (ii : Int) ∧ (ii : Int) < m 193 7) → v = -2) ∧ ∀ b : Nat, (ii : Int) = (b : Int) → (0 ≤ (ii : Int) ∧ (ii : Int) < m 193 7) → ∃ D : Nat → Nat → Int, WyD (m 193) D ∧ v = endB (pw (m 193)) D b n))
    refine gx_st (L' := [(2, 192), (0, (ii : Int))]) (S' := [(0, x10)]) r_176_13 rfl rfl rfl ?_
    exact gx_rt r_176_18 rfl rfl ⟨_, rfl, fun z => absurd z (by omega), fun b e z => ⟨D, hD, by rw [show b = ii by omega]; exact hv⟩⟩
theorem rb2_l (hT : TT T) {w0 : Nat → Int} (wb : WB (pw w0)) (wp : WP (pw w0)) {n c : Nat} {E : Nat → Int} (hn : w0 1 = (n : Int)) (hc : w0 7 = (c : Int)) (hc5 : c ≤ 5) (hE : ∀ (b : Nat) (D : Nat → Nat → Int), b < c → WyD w0 D → E b = endB (pw w0) D b n) : ∀ (N k : Nat) (p : Mm) (x4 : AV), c - k < N → k ≤ c → PinR p → Gam p → Ext p → p 193 = w0 → GX T 8 177 17 [(2, 192), (0, ((bestR E k).1)), (0, ((bestR E k).2)), (0, (k : Int)), x4] [] p (RI (fun v m1 => v = (bestR E c).1)) := by
  intro N
  induction N with
  | zero => intro k p x4 hN; exact absurd hN (Nat.not_lt_zero _)
  | succ N ih =>
    intro k p x4 hN hk hp hm hx e193
    refine gx_st (L' := [(2, 192), (0, ((bestR E k).1)), (0, ((bestR E k).2)), (0, (k : Int)), x4]) (S' := [(0, (k : Int))]) r_177_17 rfl rfl rfl ?_
    refine gx_st (L' := [(2, 192), (0, ((bestR E k).1)), (0, ((bestR E k).2)), (0, (k : Int)), x4]) (S' := [(2, 192), (0, (k : Int))]) r_177_18 rfl rfl rfl ?_
    refine gx_gf (x := 193) 2 r_177_19 (rfl) (ty_192 hT) ⟨by decide, rfl, by decide, by decide⟩ rfl (fun _ => by omega) (pin_at hp (t := 193) rfl (by decide)) ?_
    refine gx_st (L' := [(2, 192), (0, ((bestR E k).1)), (0, ((bestR E k).2)), (0, (k : Int)), x4]) (S' := [(0, 7), (2, 193), (0, (k : Int))]) r_177_22 rfl rfl rfl ?_
    refine gx_ia (n := 7) (x := (c : Int)) r_177_24 (rfl) (ty_193 hT) (rfl) ⟨rfl, by decide⟩ (((congrFun e193 7).trans hc)) ?_
    refine gx_ic (P := (c : Int) ≤ (k : Int)) r_177_25 (rfl) (fun h25 => ?_) (fun h25 => ?_)
    · refine gx_st (L' := [(2, 192), (0, ((bestR E k).1)), (0, ((bestR E k).2)), (0, (k : Int)), x4]) (S' := [(0, ((bestR E k).1))]) r_177_61 rfl rfl rfl ?_
      have hkn : k = c := by omega
      subst hkn
      exact gx_rt r_177_62 rfl rfl ⟨_, rfl, rfl⟩
    · refine gx_st (L' := [(2, 192), (0, ((bestR E k).1)), (0, ((bestR E k).2)), (0, (k : Int)), x4]) (S' := [(2, 192)]) r_177_28 rfl rfl rfl ?_
      refine gx_st (L' := [(2, 192), (0, ((bestR E k).1)), (0, ((bestR E k).2)), (0, (k : Int)), x4]) (S' := [(0, (k : Int)), (2, 192)]) r_177_29 rfl rfl rfl ?_
      refine gx_ci (nx := 33) (S2 := []) (y_175 hT hp hm hx (by rw [e193]; exact wb) (by rw [e193]; exact wp) (n := n) (by rw [e193]; exact hn) (b := k) (by rw [e193]; omega)) r_177_30 rfl rfl rfl rfl rfl (rcv_v rfl (ty_192 hT) (by decide) rfl (by decide)) rfl (by decide) rfl (fun x30 n30 q30 => ?_)
      obtain ⟨⟨D, hD, hv⟩, p1, p2, p3, e2⟩ := q30
      have e3 := e2.trans e193
      rw [e193] at hD hv
      have ze : x30 = E k := hv.trans (hE k D (by omega) hD).symm
      rw [ze]
      show GX T 8 177 33 [(2, 192), (0, ((bestR E k).1)), (0, ((bestR E k).2)), (0, (k : Int)), x4] [(0, (E k))] n30 (RI (fun v m1 => v = (bestR E c).1))
      show GX T 8 177 33 [(2, 192), (0, ((bestR E k).1)), (0, ((bestR E k).2)), (0, (k : Int)), x4] [(0, (E k))] n30 (RI (fun v m1 => v = (bestR E c).1))
      refine gx_st (L' := [(2, 192), (0, ((bestR E k).1)), (0, ((bestR E k).2)), (0, (k : Int)), (0, (E k))]) (S' := []) r_177_33 rfl rfl rfl ?_
      refine gx_st (L' := [(2, 192), (0, ((bestR E k).1)), (0, ((bestR E k).2)), (0, (k : Int)), (0, (E k))]) (S' := [(0, (E k))]) r_177_35 rfl rfl rfl ?_
      refine gx_st (L' := [(2, 192), (0, ((bestR E k).1)), (0, ((bestR E k).2)), (0, (k : Int)), (0, (E k))]) (S' := [(0, (-1)), (0, (E k))]) r_177_37 rfl rfl rfl ?_
      refine gx_ic (P := (E k) = (-1)) r_177_38 (rfl) (fun h38 => ?_) (fun h38 => ?_)
      · refine gx_li (z := (k : Int) + 1) (L' := [(2, 192), (0, ((bestR E k).1)), (0, ((bestR E k).2)), (0, (k : Int) + 1), (0, (E k))]) r_177_55 rfl (w32_eq (by omega) (by omega) (by omega)) rfl ?_
        refine gx_st (L' := [(2, 192), (0, ((bestR E k).1)), (0, ((bestR E k).2)), (0, (k : Int) + 1), (0, (E k))]) (S' := []) r_177_58 rfl rfl rfl ?_
        rw [show (k : Int) + 1 = ((k + 1 : Nat) : Int) from rfl]
        have z := ih (k + 1) n30 (0, E k) (by omega) (by omega) p1 p2 p3 e3
        rw [bestR_n (by omega)] at z
        exact z
      · refine gx_st (L' := [(2, 192), (0, ((bestR E k).1)), (0, ((bestR E k).2)), (0, (k : Int)), (0, (E k))]) (S' := [(0, (E k))]) r_177_41 rfl rfl rfl ?_
        refine gx_st (L' := [(2, 192), (0, ((bestR E k).1)), (0, ((bestR E k).2)), (0, (k : Int)), (0, (E k))]) (S' := [(0, ((bestR E k).2)), (0, (E k))]) r_177_43 rfl rfl rfl ?_
        refine gx_ic (P := (E k) < ((bestR E k).2)) r_177_44 (rfl) (fun h44 => ?_) (fun h44 => ?_)
        · refine gx_st (L' := [(2, 192), (0, ((bestR E k).1)), (0, ((bestR E k).2)), (0, (k : Int)), (0, (E k))]) (S' := [(0, (E k))]) r_177_50 rfl rfl rfl ?_
          refine gx_st (L' := [(2, 192), (0, ((bestR E k).1)), (0, (E k)), (0, (k : Int)), (0, (E k))]) (S' := []) r_177_52 rfl rfl rfl ?_
          refine gx_st (L' := [(2, 192), (0, ((bestR E k).1)), (0, (E k)), (0, (k : Int)), (0, (E k))]) (S' := [(0, (k : Int))]) r_177_53 rfl rfl rfl ?_
          refine gx_st (L' := [(2, 192), (0, (k : Int)), (0, (E k)), (0, (k : Int)), (0, (E k))]) (S' := []) r_177_54 rfl rfl rfl ?_
          refine gx_li (z := (k : Int) + 1) (L' := [(2, 192), (0, (k : Int)), (0, (E k)), (0, (k : Int) + 1), (0, (E k))]) r_177_55 rfl (w32_eq (by omega) (by omega) (by omega)) rfl ?_
          refine gx_st (L' := [(2, 192), (0, (k : Int)), (0, (E k)), (0, (k : Int) + 1), (0, (E k))]) (S' := []) r_177_58 rfl rfl rfl ?_
          rw [show (k : Int) + 1 = ((k + 1 : Nat) : Int) from rfl]
          have z := ih (k + 1) n30 (0, E k) (by omega) (by omega) p1 p2 p3 e3
          rw [bestR_y (by omega)] at z
          exact z
        · refine gx_st (L' := [(2, 192), (0, ((bestR E k).1)), (0, ((bestR E k).2)), (0, (k : Int)), (0, (E k))]) (S' := []) r_177_47 rfl rfl rfl ?_
          refine gx_li (z := (k : Int) + 1) (L' := [(2, 192), (0, ((bestR E k).1)), (0, ((bestR E k).2)), (0, (k : Int) + 1), (0, (E k))]) r_177_55 rfl (w32_eq (by omega) (by omega) (by omega)) rfl ?_
          refine gx_st (L' := [(2, 192), (0, ((bestR E k).1)), (0, ((bestR E k).2)), (0, (k : Int) + 1), (0, (E k))]) (S' := []) r_177_58 rfl rfl rfl ?_
          rw [show (k : Int) + 1 = ((k + 1 : Nat) : Int) from rfl]
          have z := ih (k + 1) n30 (0, E k) (by omega) (by omega) p1 p2 p3 e3
          rw [bestR_n (by omega)] at z
          exact z
theorem y_177 (hT : TT T) (hp : PinR m) (hm : Gam m) (hx : Ext m) (wb : WB (pw (m 193))) (wp : WP (pw (m 193))) {n : Nat} (hn : m 193 1 = (n : Int)) {E : Nat → Int} (hE : ∀ (b : Nat) (D : Nat → Nat → Int), (b : Int) < m 193 7 → WyD (m 193) D → E b = endB (pw (m 193)) D b n) : GX T 9 177 0 [(2, 192), (9, 0), (9, 0), (9, 0), (9, 0)] [] m (RI (fun v m1 => (¬ 0 < m 193 9 → v = -2) ∧ ∀ c : Nat, m 193 7 = (c : Int) → 0 < m 193 9 → v = (bestR E c).1)) := by
  refine gx_st (L' := [(2, 192), (9, 0), (9, 0), (9, 0), (9, 0)]) (S' := [(2, 192)]) r_177_0 rfl rfl rfl ?_
  refine gx_ci (nx := 4) (S2 := []) (x_90 hT hm) r_177_1 rfl rfl rfl rfl rfl (rcv_v rfl (ty_192 hT) (by decide) rfl (by decide)) rfl (by decide) rfl (fun x1 n1 q1 => ?_)
  obtain rfl := q1.1.symm
  obtain rfl := q1.2.symm
  show GX T 9 177 4 [(2, 192), (9, 0), (9, 0), (9, 0), (9, 0)] [(0, (if 0 < m 193 9 then 1 else 0))] m (RI (fun v m1 => (¬ 0 < m 193 9 → v = -2) ∧ ∀ c : Nat, m 193 7 = (c : Int) → 0 < m 193 9 → v = (bestR E c).1))
  refine gx_i0 (P := 0 < m 193 9) r_177_4 (b01_ne) (fun h4 => ?_) (fun h4 => ?_)
  · refine gx_st (L' := [(2, 192), (9, 0), (9, 0), (9, 0), (9, 0)]) (S' := [(0, (-1))]) r_177_10 rfl rfl rfl ?_
    refine gx_st (L' := [(2, 192), (0, (-1)), (9, 0), (9, 0), (9, 0)]) (S' := []) r_177_11 rfl rfl rfl ?_
    refine gx_st (L' := [(2, 192), (0, (-1)), (9, 0), (9, 0), (9, 0)]) (S' := [(0, 1000000000)]) r_177_12 rfl rfl rfl ?_
    refine gx_st (L' := [(2, 192), (0, (-1)), (0, 1000000000), (9, 0), (9, 0)]) (S' := []) r_177_14 rfl rfl rfl ?_
    refine gx_st (L' := [(2, 192), (0, (-1)), (0, 1000000000), (9, 0), (9, 0)]) (S' := [(0, 0)]) r_177_15 rfl rfl rfl ?_
    refine gx_st (L' := [(2, 192), (0, (-1)), (0, 1000000000), (0, 0), (9, 0)]) (S' := []) r_177_16 rfl rfl rfl ?_
    have b7 := gb_193_7 hm
    exact gx_imp (gx_d (rb2_l hT wb wp hn (c := (m 193 7).toNat) (E := E) (by omega) (by omega) (fun b D hb hD => hE b D (by omega) hD) ((m 193 7).toNat + 1) 0 m (9, 0) (by omega) (by omega) hp hm hx rfl) (by decide)) (fun v m1 ⟨x, e, q⟩ => ⟨x, e, fun z => absurd h4 z, fun c2 e2 z => by rw [show c2 = (m 193 7).toNat by omega]; exact q⟩)
  · refine gx_st (L' := [(2, 192), (9, 0), (9, 0), (9, 0), (9, 0)]) (S' := [(0, (-2))]) r_177_7 rfl rfl rfl ?_
    exact gx_rt r_177_9 rfl rfl ⟨_, rfl, fun _ => rfl, fun c e z => absurd z h4⟩
end FROM
theorem q_34 {m m1 : Mm} {a v1 v2 : Int} {n : Nat} (r : WX m) (e : m1 193 = m 193) (h1 : (¬ (0 ≤ a ∧ a < m 4 8) → v1 = -2) ∧ ∀ b : Nat, a = (b : Int) → (0 ≤ a ∧ a < m 4 8) → ∀ D : Nat → Nat → Int, WyD (m 193) D → v1 = endB (pw (m 193)) D b n) (h2 : (¬ (0 ≤ a ∧ a < m1 193 7) → v2 = -2) ∧ ∀ b : Nat, a = (b : Int) → (0 ≤ a ∧ a < m1 193 7) → ∃ D : Nat → Nat → Int, WyD (m1 193) D ∧ v2 = endB (pw (m1 193)) D b n) : v1 = v2 := by
  have e48 : m 4 8 = m 193 7 := r.1.1.2.2.2.2.2.2.2.2.1
  rw [e] at h2
  by_cases c : 0 ≤ a ∧ a < m 4 8
  · obtain ⟨b, hb⟩ : ∃ i : Nat, a = (i : Int) := ⟨a.toNat, by omega⟩
    obtain ⟨D, hD, hv⟩ := h2.2 b hb (by omega)
    rw [h1.2 b hb c D hD, hv]
  · rw [h1.1 c, h2.1 (by omega)]
theorem q_35 {m m1 : Mm} {v1 v2 : Int} {n : Nat} {D0 : Nat → Nat → Int} (hm : Gam m) (r : WX m) (hn : m 193 1 = (n : Int)) (e : m1 193 = m 193) (h1 : (¬ 0 < m 4 0 → v1 = -2) ∧ ∀ c : Nat, m 193 7 = (c : Int) → 0 < m 4 0 → v1 = (bestL (fun b => endB (pw (m 193)) D0 b n) c).1) (h2 : (¬ 0 < m1 193 9 → v2 = -2) ∧ ∀ c : Nat, m1 193 7 = (c : Int) → 0 < m1 193 9 → v2 = (bestR (fun b => endB (pw (m 193)) D0 b n) c).1) : v1 = v2 := by
  have e40 : m 4 0 = m 193 9 := r.1.1.1
  have b7 := gb_193_7 hm
  have b1 := gb_193_1 hm
  rw [e] at h2
  by_cases c : 0 < m 4 0
  · obtain ⟨k, hk⟩ : ∃ i : Nat, m 193 7 = (i : Int) := ⟨(m 193 7).toNat, by omega⟩
    rw [h1.2 k hk c, h2.2 k hk (by omega)]
    refine (best_LR k (fun i hi => ⟨rfl, ?_⟩)).1
    have z := endF_in (fun h => runF (pw (m 193)) D0 (fun _ => 0) (beginF (pw (m 193)) (i : Int) (pw (m 193) (47 + 2 * i))) h 1) n
    show -1 ≤ endB (pw (m 193)) D0 i n ∧ endB (pw (m 193)) D0 i n ≤ 11
    unfold endB
    omega
  · rw [h1.1 c, h2.1 (by omega)]
theorem wa_n {m : Mm} (hm : Gam m) : ∃ n : Nat, m 193 1 = (n : Int) ∧ n ≤ 12 := by
  have b1 := gb_193_1 hm
  exact ⟨(m 193 1).toNat, by omega, by omega⟩
