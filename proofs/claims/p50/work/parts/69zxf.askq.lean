/-! ask of the reference, from its beginning; the question -/
theorem r_199_0 : row 199 0 = some (.aload_n 0, 1, 0, 0, 0, 0) := rfl
theorem r_199_1 : row 199 1 = some (.aload_n 0, 2, 0, 0, 0, 0) := rfl
theorem r_199_2 : row 199 2 = some (.getfield 395, 5, 10, 34, 0, 6035) := rfl
theorem r_199_5 : row 199 5 = some (.putfield 401, 8, 10, 35, 0, 6036) := rfl
theorem r_199_8 : row 199 8 = some (.iconst (-1), 9, (-1), 0, 0, 0) := rfl
theorem r_199_9 : row 199 9 = some (.istore_n 1, 10, 0, 0, 0, 0) := rfl
theorem r_199_10 : row 199 10 = some (.iconst 0, 11, 0, 0, 0, 0) := rfl
theorem r_199_11 : row 199 11 = some (.istore_n 2, 12, 0, 0, 0, 0) := rfl
theorem r_199_12 : row 199 12 = some (.iload_n 2, 13, 0, 0, 0, 0) := rfl
theorem r_199_13 : row 199 13 = some (.aload_n 0, 14, 0, 0, 0, 0) := rfl
theorem r_199_14 : row 199 14 = some (.getfield 9, 17, 10, 1, 2, 6002) := rfl
theorem r_199_17 : row 199 17 = some (.iconst 5, 18, 5, 0, 0, 0) := rfl
theorem r_199_18 : row 199 18 = some (.iaload, 19, 0, 0, 0, 0) := rfl
theorem r_199_19 : row 199 19 = some (.if_icmp .ge 99, 22, 118, 0, 0, 0) := rfl
theorem r_199_22 : row 199 22 = some (.iconst 0, 23, 0, 0, 0, 0) := rfl
theorem r_199_23 : row 199 23 = some (.istore_n 3, 24, 0, 0, 0, 0) := rfl
theorem r_199_24 : row 199 24 = some (.iconst 0, 25, 0, 0, 0, 0) := rfl
theorem r_199_25 : row 199 25 = some (.istore 4, 27, 0, 0, 0, 0) := rfl
theorem r_199_27 : row 199 27 = some (.iload 4, 29, 0, 0, 0, 0) := rfl
theorem r_199_29 : row 199 29 = some (.bipush 10, 31, 10, 0, 0, 0) := rfl
theorem r_199_31 : row 199 31 = some (.if_icmp .ge 63, 34, 94, 0, 0, 0) := rfl
theorem r_199_34 : row 199 34 = some (.iconst 0, 35, 0, 0, 0, 0) := rfl
theorem r_199_35 : row 199 35 = some (.istore 5, 37, 0, 0, 0, 0) := rfl
theorem r_199_37 : row 199 37 = some (.iconst 0, 38, 0, 0, 0, 0) := rfl
theorem r_199_38 : row 199 38 = some (.istore 6, 40, 0, 0, 0, 0) := rfl
theorem r_199_40 : row 199 40 = some (.iload 6, 42, 0, 0, 0, 0) := rfl
theorem r_199_42 : row 199 42 = some (.aload_n 0, 43, 0, 0, 0, 0) := rfl
theorem r_199_43 : row 199 43 = some (.getfield 395, 46, 10, 34, 0, 6035) := rfl
theorem r_199_46 : row 199 46 = some (.if_icmp .ge 35, 49, 81, 0, 0, 0) := rfl
theorem r_199_49 : row 199 49 = some (.iload 5, 51, 0, 0, 0, 0) := rfl
theorem r_199_51 : row 199 51 = some (.aload_n 0, 52, 0, 0, 0, 0) := rfl
theorem r_199_52 : row 199 52 = some (.getfield 61, 55, 10, 33, 2, 6034) := rfl
theorem r_199_55 : row 199 55 = some (.iconst 5, 56, 5, 0, 0, 0) := rfl
theorem r_199_56 : row 199 56 = some (.iload 6, 58, 0, 0, 0, 0) := rfl
theorem r_199_58 : row 199 58 = some (.imul, 59, 0, 0, 0, 0) := rfl
theorem r_199_59 : row 199 59 = some (.iload_n 2, 60, 0, 0, 0, 0) := rfl
theorem r_199_60 : row 199 60 = some (.iadd, 61, 0, 0, 0, 0) := rfl
theorem r_199_61 : row 199 61 = some (.iaload, 62, 0, 0, 0, 0) := rfl
theorem r_199_62 : row 199 62 = some (.iload 4, 64, 0, 0, 0, 0) := rfl
theorem r_199_64 : row 199 64 = some (.if_icmp .ne 7, 67, 71, 0, 0, 0) := rfl
theorem r_199_67 : row 199 67 = some (.iconst 1, 68, 1, 0, 0, 0) := rfl
theorem r_199_68 : row 199 68 = some (.goto 4, 71, 72, 0, 0, 0) := rfl
theorem r_199_71 : row 199 71 = some (.iconst 0, 72, 0, 0, 0, 0) := rfl
theorem r_199_72 : row 199 72 = some (.iadd, 73, 0, 0, 0, 0) := rfl
theorem r_199_73 : row 199 73 = some (.istore 5, 75, 0, 0, 0, 0) := rfl
theorem r_199_75 : row 199 75 = some (.iinc 6 1, 78, 0, 0, 0, 0) := rfl
theorem r_199_78 : row 199 78 = some (.goto (-38), 81, 40, 0, 0, 0) := rfl
theorem r_199_81 : row 199 81 = some (.iload_n 3, 82, 0, 0, 0, 0) := rfl
theorem r_199_82 : row 199 82 = some (.iload 5, 84, 0, 0, 0, 0) := rfl
theorem r_199_84 : row 199 84 = some (.invokestatic 302, 87, (-3), 2, 0, 7125) := rfl
theorem r_199_87 : row 199 87 = some (.istore_n 3, 88, 0, 0, 0, 0) := rfl
theorem r_199_88 : row 199 88 = some (.iinc 4 1, 91, 0, 0, 0, 0) := rfl
theorem r_199_91 : row 199 91 = some (.goto (-64), 94, 27, 0, 0, 0) := rfl
theorem r_199_94 : row 199 94 = some (.iload_n 3, 95, 0, 0, 0, 0) := rfl
theorem r_199_95 : row 199 95 = some (.aload_n 0, 96, 0, 0, 0, 0) := rfl
theorem r_199_96 : row 199 96 = some (.getfield 401, 99, 10, 35, 0, 6036) := rfl
theorem r_199_99 : row 199 99 = some (.if_icmp .lt 6, 102, 105, 0, 0, 0) := rfl
theorem r_199_102 : row 199 102 = some (.goto 10, 105, 112, 0, 0, 0) := rfl
theorem r_199_105 : row 199 105 = some (.aload_n 0, 106, 0, 0, 0, 0) := rfl
theorem r_199_106 : row 199 106 = some (.iload_n 3, 107, 0, 0, 0, 0) := rfl
theorem r_199_107 : row 199 107 = some (.putfield 401, 110, 10, 35, 0, 6036) := rfl
theorem r_199_110 : row 199 110 = some (.iload_n 2, 111, 0, 0, 0, 0) := rfl
theorem r_199_111 : row 199 111 = some (.istore_n 1, 112, 0, 0, 0, 0) := rfl
theorem r_199_112 : row 199 112 = some (.iinc 2 1, 115, 0, 0, 0, 0) := rfl
theorem r_199_115 : row 199 115 = some (.goto (-103), 118, 12, 0, 0, 0) := rfl
theorem r_199_118 : row 199 118 = some (.iload_n 1, 119, 0, 0, 0, 0) := rfl
theorem r_199_119 : row 199 119 = some (.ireturn, 120, 0, 0, 0, 0) := rfl
theorem r_200_0 : row 200 0 = some (.aload_n 0, 1, 0, 0, 0, 0) := rfl
theorem r_200_1 : row 200 1 = some (.iload_n 1, 2, 0, 0, 0, 0) := rfl
theorem r_200_2 : row 200 2 = some (.invokevirtual 398, 5, 195, 1, 0, 8103) := rfl
theorem r_200_5 : row 200 5 = some (.istore_n 2, 6, 0, 0, 0, 0) := rfl
theorem r_200_6 : row 200 6 = some (.iload_n 2, 7, 0, 0, 0, 0) := rfl
theorem r_200_7 : row 200 7 = some (.ifCond .ge 7, 10, 14, 0, 0, 0) := rfl
theorem r_200_10 : row 200 10 = some (.iload_n 2, 11, 0, 0, 0, 0) := rfl
theorem r_200_11 : row 200 11 = some (.goto 7, 14, 18, 0, 0, 0) := rfl
theorem r_200_14 : row 200 14 = some (.aload_n 0, 15, 0, 0, 0, 0) := rfl
theorem r_200_15 : row 200 15 = some (.invokevirtual 404, 18, 199, 0, 0, 8128) := rfl
theorem r_200_18 : row 200 18 = some (.ireturn, 19, 0, 0, 0, 0) := rfl
/-- how many are alike on a TREE, in the reference's rows -/
def cnF (m : Mm) (M t a : Nat) : Nat := ctB (fun j => decide (m 208 (5 * j + t) = (a : Int))) M
theorem sndB_c {N L : Nat → Int} {tr : Int} : ∀ k : Nat, (∀ i : Nat, i < k → N i = L i) → sndB N tr k = sndB L tr k := by
  intro k
  induction k with
  | zero => intro _; rfl
  | succ k ih =>
    intro h
    show (sndB N tr k && decide (0 ≤ N k ∧ N k < (if k % 2 = 0 then tr else 10))) = (sndB L tr k && decide (0 ≤ L k ∧ L k < (if k % 2 = 0 then tr else 10)))
    rw [ih (fun i hi => h i (by omega)), h k (by omega)]
theorem fitB_n {N L f : Nat → Int} : ∀ k : Nat, (∀ i : Nat, i < 2 * k → N i = L i) → fitB N f k = fitB L f k := by
  intro k
  induction k with
  | zero => intro _; rfl
  | succ k ih =>
    intro h
    show (fitB N f k && decide (f (N (2 * k)).toNat = N (2 * k + 1))) = (fitB L f k && decide (f (L (2 * k)).toNat = L (2 * k + 1)))
    rw [ih (fun i hi => h i (by omega)), h (2 * k) (by omega), h (2 * k + 1) (by omega)]
theorem askF_c {w : Wd} {D : Nat → Nat → Int} {N L : Nat → Int} {q n c k : Nat} (h : ∀ i : Nat, i < 2 * q → N i = L i) : askF w D N q n c k = askF w D L q n c k := by
  have e : ∀ f : Nat → Int, fitB N f q = fitB L f q := fun f => fitB_n q h
  unfold askF alF prF
  rw [toB_c (Q := fun b h => fitB L (fun t => frF w D b h t) q) c (fun b h _ _ => e _)]
  rw [btF_c (L := fun t => mxF (fun a => ((toB (fun b h => fitB L (fun t => frF w D b h t) q && decide (frF w D b h t = (a : Int))) n c : Nat) : Int)) 10) k (fun t _ => mxF_c 10 (fun a _ => by
    show ((toB _ n c : Nat) : Int) = ((toB _ n c : Nat) : Int)
    rw [toB_c (Q := fun b h => fitB L (fun t => frF w D b h t) q && decide (frF w D b h t = (a : Int))) c (fun b h _ _ => by
      show (fitB N (fun t => frF w D b h t) q && _) = (fitB L (fun t => frF w D b h t) q && _)
      rw [e])]))]
theorem askV_c {w : Wd} {D : Nat → Nat → Int} {N L : Nat → Int} {n tr cc : Nat} {sz v : Int} (hsz : sz ≤ 60) (h : ∀ i : Nat, i < 60 → N i = L i) (a : AskV w D N n tr cc sz v) : AskV w D L n tr cc sz v := by
  refine ⟨a.1, fun c hc => ?_⟩
  have k := a.2 c hc
  have e : ∀ k : Nat, k ≤ c → sndB N (tr : Int) k = sndB L (tr : Int) k := fun k hk => sndB_c k (fun i hi => h i (by omega))
  refine ⟨fun z => k.1 (by rw [e c (Nat.le_refl _)]; exact z), fun q hq hs => ?_⟩
  rw [k.2 q hq (by rw [e (2 * q) (by omega)]; exact hs)]
  exact askF_c (fun i hi => h i (by omega))
theorem askF_cc {w : Wd} {D : Nat → Nat → Int} {N : Nat → Int} {q n k : Nat} (hB : WB w) (hF : WBf w) (hk : (k : Int) ≤ w 5) (hk5 : k ≤ 5) : askF w D N q n (ccW w) k = askF w D N q n (w 0).toNat k := by
  have b7 := hB.2.2.2.2.1
  by_cases c : w 7 = 0
  · rw [show ccW w = 0 from if_pos c, askF_n, askF_0 (by omega) hF hk hk5]
  · rw [show ccW w = (w 0).toNat from if_neg c]
/-- both sides' answers are the same -/
theorem q_49 {p q : Mm} {v1 v2 a : Int} {n tr : Nat} (hm : Gam p) (r : WX p) (h5 : p 193 5 = (tr : Int)) (e : q 193 = p 193) (sz : ∀ i : Nat, i < 4 → q 209 i = p (146 + 2 * i) 2) (bz : ∀ i : Nat, i < 4 → -1 ≤ p (146 + 2 * i) 2 ∧ p (146 + 2 * i) 2 ≤ 60) (sn : ∀ i : Nat, i < 4 → ∀ k : Nat, k < 60 → q 211 (60 * i + k) = p (146 + 2 * i + 1) k) (h1 : (¬ (0 < p 4 0 ∧ 0 ≤ a ∧ a < 4) → v1 = -2) ∧ ∀ i : Nat, i < 4 → a = (i : Int) → 0 < p 4 0 → ∀ D : Nat → Nat → Int, WyD (pw (p 193)) D → AskV (pw (p 193)) D (p (146 + 2 * i + 1)) n tr (ccW (pw (p 193))) (p (146 + 2 * i) 2) v1) (h2 : (¬ (0 < q 193 9 ∧ 0 ≤ a ∧ a < 4) → v2 = -2) ∧ ∀ i : Nat, i < 4 → a = (i : Int) → 0 < q 193 9 → ∃ D : Nat → Nat → Int, WyD (pw (q 193)) D ∧ AskV (pw (q 193)) D (fun k => q 211 (60 * i + k)) n tr (pw (q 193) 0).toNat (q 209 i) v2) : v1 = v2 := by
  have e0 : p 4 0 = p 193 9 := r.1.1.1
  rw [e] at h2
  by_cases c : 0 < p 4 0 ∧ 0 ≤ a ∧ a < 4
  · obtain ⟨i, hi⟩ : ∃ i : Nat, a = (i : Int) := ⟨a.toNat, by omega⟩
    have hi4 : i < 4 := by omega
    obtain ⟨D, hD, k2⟩ := h2.2 i hi4 hi (by omega)
    have k1 := h1.2 i hi4 hi c.1 D hD
    rw [sz i hi4] at k2
    have b := bz i hi4
    have k3 := askV_c b.2 (fun j hj => sn i hi4 j hj) k2
    have b5 := gb_193_5 hm
    exact askV_u b.1 k1 k3 (fun q2 => askF_cc (WD_w r.1 (pw_ag (p 193))).2.1 (wbf_pw hm) (by rw [pw_at (by decide) (by decide), h5]; exact Int.le_refl _) (by omega))
  · rw [h1.1 c, h2.1 (by omega)]
section ASKQ
variable {T : List Kd} {m : Mm}
theorem cnt_l (hT : TT T) (hp : PinR m) {f y : Int} {t a M : Nat} (ht : t < 5) (ha : a < 10) (hM : M ≤ 91) (h34 : m 192 34 = (M : Int)) {Q : AV → Mm → Prop} (hQ : GX T 1 199 81 [(2, 192), (0, f), (0, (t : Int)), (0, y), (0, (a : Int)), (0, ((ctB (fun j => decide (m 208 (5 * j + t) = (a : Int))) M : Nat) : Int)), (0, (M : Int))] [] m Q) : ∀ (N j : Nat), M - j < N → j ≤ M → GX T 1 199 40 [(2, 192), (0, f), (0, (t : Int)), (0, y), (0, (a : Int)), (0, ((ctB (fun j => decide (m 208 (5 * j + t) = (a : Int))) j : Nat) : Int)), (0, (j : Int))] [] m Q := by
  intro N
  induction N with
  | zero => intro j hN; exact absurd hN (Nat.not_lt_zero _)
  | succ N ih =>
    intro j hN hj
    have hc : ctB (fun j => decide (m 208 (5 * j + t) = (a : Int))) j ≤ j := ctB_le j
    refine gx_st (L' := [(2, 192), (0, f), (0, (t : Int)), (0, y), (0, (a : Int)), (0, ((ctB (fun j => decide (m 208 (5 * j + t) = (a : Int))) j : Nat) : Int)), (0, (j : Int))]) (S' := [(0, (j : Int))]) r_199_40 rfl rfl rfl ?_
    refine gx_st (L' := [(2, 192), (0, f), (0, (t : Int)), (0, y), (0, (a : Int)), (0, ((ctB (fun j => decide (m 208 (5 * j + t) = (a : Int))) j : Nat) : Int)), (0, (j : Int))]) (S' := [(2, 192), (0, (j : Int))]) r_199_42 rfl rfl rfl ?_
    refine gx_gf (x := (M : Int)) 0 r_199_43 (rfl) (ty_192 hT) ⟨by decide, rfl, by decide, by decide⟩ rfl (fun z => absurd z (by decide)) (h34) ?_
    refine gx_ic (P := (M : Int) ≤ (j : Int)) r_199_46 (rfl) (fun h46 => ?_) (fun h46 => ?_)
    · have hjM : j = M := by omega
      subst hjM
      exact hQ
    · refine gx_st (L' := [(2, 192), (0, f), (0, (t : Int)), (0, y), (0, (a : Int)), (0, ((ctB (fun j => decide (m 208 (5 * j + t) = (a : Int))) j : Nat) : Int)), (0, (j : Int))]) (S' := [(0, ((ctB (fun j => decide (m 208 (5 * j + t) = (a : Int))) j : Nat) : Int))]) r_199_49 rfl rfl rfl ?_
      refine gx_st (L' := [(2, 192), (0, f), (0, (t : Int)), (0, y), (0, (a : Int)), (0, ((ctB (fun j => decide (m 208 (5 * j + t) = (a : Int))) j : Nat) : Int)), (0, (j : Int))]) (S' := [(2, 192), (0, ((ctB (fun j => decide (m 208 (5 * j + t) = (a : Int))) j : Nat) : Int))]) r_199_51 rfl rfl rfl ?_
      refine gx_gf (x := 208) 2 r_199_52 (rfl) (ty_192 hT) ⟨by decide, rfl, by decide, by decide⟩ rfl (fun _ => by omega) (pin_at hp (t := 208) rfl (by decide)) ?_
      refine gx_st (L' := [(2, 192), (0, f), (0, (t : Int)), (0, y), (0, (a : Int)), (0, ((ctB (fun j => decide (m 208 (5 * j + t) = (a : Int))) j : Nat) : Int)), (0, (j : Int))]) (S' := [(0, 5), (2, 208), (0, ((ctB (fun j => decide (m 208 (5 * j + t) = (a : Int))) j : Nat) : Int))]) r_199_55 rfl rfl rfl ?_
      refine gx_st (L' := [(2, 192), (0, f), (0, (t : Int)), (0, y), (0, (a : Int)), (0, ((ctB (fun j => decide (m 208 (5 * j + t) = (a : Int))) j : Nat) : Int)), (0, (j : Int))]) (S' := [(0, (j : Int)), (0, 5), (2, 208), (0, ((ctB (fun j => decide (m 208 (5 * j + t) = (a : Int))) j : Nat) : Int))]) r_199_56 rfl rfl rfl ?_
      refine gx_ar (L' := [(2, 192), (0, f), (0, (t : Int)), (0, y), (0, (a : Int)), (0, ((ctB (fun j => decide (m 208 (5 * j + t) = (a : Int))) j : Nat) : Int)), (0, (j : Int))]) (S' := [(2, 208), (0, ((ctB (fun j => decide (m 208 (5 * j + t) = (a : Int))) j : Nat) : Int))]) (t := 0) (e := w32 (5 * (j : Int))) (z := 5 * (j : Int)) r_199_58 rfl rfl rfl (w32_eq (by omega) (by omega) (by omega)) ?_
      refine gx_st (L' := [(2, 192), (0, f), (0, (t : Int)), (0, y), (0, (a : Int)), (0, ((ctB (fun j => decide (m 208 (5 * j + t) = (a : Int))) j : Nat) : Int)), (0, (j : Int))]) (S' := [(0, (t : Int)), (0, 5 * (j : Int)), (2, 208), (0, ((ctB (fun j => decide (m 208 (5 * j + t) = (a : Int))) j : Nat) : Int))]) r_199_59 rfl rfl rfl ?_
      refine gx_ar (L' := [(2, 192), (0, f), (0, (t : Int)), (0, y), (0, (a : Int)), (0, ((ctB (fun j => decide (m 208 (5 * j + t) = (a : Int))) j : Nat) : Int)), (0, (j : Int))]) (S' := [(2, 208), (0, ((ctB (fun j => decide (m 208 (5 * j + t) = (a : Int))) j : Nat) : Int))]) (t := 0) (e := w32 ((5 * (j : Int)) + (t : Int))) (z := 5 * (j : Int) + (t : Int)) r_199_60 rfl rfl rfl (w32_eq (by omega) (by omega) (by omega)) ?_
      refine gx_ia (n := 5 * j + t) (x := (m 208 (5 * j + t))) r_199_61 (rfl) (ty_208 hT) (by omega) ⟨rfl, by omega⟩ (rfl) ?_
      refine gx_st (L' := [(2, 192), (0, f), (0, (t : Int)), (0, y), (0, (a : Int)), (0, ((ctB (fun j => decide (m 208 (5 * j + t) = (a : Int))) j : Nat) : Int)), (0, (j : Int))]) (S' := [(0, (a : Int)), (0, (m 208 (5 * j + t))), (0, ((ctB (fun j => decide (m 208 (5 * j + t) = (a : Int))) j : Nat) : Int))]) r_199_62 rfl rfl rfl ?_
      refine gx_ic (P := ¬ (m 208 (5 * j + t)) = (a : Int)) r_199_64 (rfl) (fun h64 => ?_) (fun h64 => ?_)
      · refine gx_st (L' := [(2, 192), (0, f), (0, (t : Int)), (0, y), (0, (a : Int)), (0, ((ctB (fun j => decide (m 208 (5 * j + t) = (a : Int))) j : Nat) : Int)), (0, (j : Int))]) (S' := [(0, 0), (0, ((ctB (fun j => decide (m 208 (5 * j + t) = (a : Int))) j : Nat) : Int))]) r_199_71 rfl rfl rfl ?_
        refine gx_ar (L' := [(2, 192), (0, f), (0, (t : Int)), (0, y), (0, (a : Int)), (0, ((ctB (fun j => decide (m 208 (5 * j + t) = (a : Int))) j : Nat) : Int)), (0, (j : Int))]) (S' := []) (t := 0) (e := w32 ((((ctB (fun j => decide (m 208 (5 * j + t) = (a : Int))) j : Nat) : Int)) + 0)) (z := ((ctB (fun j => decide (m 208 (5 * j + t) = (a : Int))) j : Nat) : Int)) r_199_72 rfl rfl rfl (w32_eq (by omega) (by omega) (by omega)) ?_
        refine gx_st (L' := [(2, 192), (0, f), (0, (t : Int)), (0, y), (0, (a : Int)), (0, ((ctB (fun j => decide (m 208 (5 * j + t) = (a : Int))) j : Nat) : Int)), (0, (j : Int))]) (S' := []) r_199_73 rfl rfl rfl ?_
        refine gx_li (z := (j : Int) + 1) (L' := [(2, 192), (0, f), (0, (t : Int)), (0, y), (0, (a : Int)), (0, ((ctB (fun j => decide (m 208 (5 * j + t) = (a : Int))) j : Nat) : Int)), (0, (j : Int) + 1)]) r_199_75 rfl (w32_eq (by omega) (by omega) (by omega)) rfl ?_
        refine gx_st (L' := [(2, 192), (0, f), (0, (t : Int)), (0, y), (0, (a : Int)), (0, ((ctB (fun j => decide (m 208 (5 * j + t) = (a : Int))) j : Nat) : Int)), (0, (j : Int) + 1)]) (S' := []) r_199_78 rfl rfl rfl ?_
        have z := ih (j + 1) (by omega) (by omega)
        rw [ctB_n (p := fun j => decide (m 208 (5 * j + t) = (a : Int))) (fun z => h64 (of_decide_eq_true z))] at z
        exact z
      · have h64 := Decidable.not_not.mp h64
        refine gx_st (L' := [(2, 192), (0, f), (0, (t : Int)), (0, y), (0, (a : Int)), (0, ((ctB (fun j => decide (m 208 (5 * j + t) = (a : Int))) j : Nat) : Int)), (0, (j : Int))]) (S' := [(0, 1), (0, ((ctB (fun j => decide (m 208 (5 * j + t) = (a : Int))) j : Nat) : Int))]) r_199_67 rfl rfl rfl ?_
        refine gx_st (L' := [(2, 192), (0, f), (0, (t : Int)), (0, y), (0, (a : Int)), (0, ((ctB (fun j => decide (m 208 (5 * j + t) = (a : Int))) j : Nat) : Int)), (0, (j : Int))]) (S' := [(0, 1), (0, ((ctB (fun j => decide (m 208 (5 * j + t) = (a : Int))) j : Nat) : Int))]) r_199_68 rfl rfl rfl ?_
        refine gx_ar (L' := [(2, 192), (0, f), (0, (t : Int)), (0, y), (0, (a : Int)), (0, ((ctB (fun j => decide (m 208 (5 * j + t) = (a : Int))) j : Nat) : Int)), (0, (j : Int))]) (S' := []) (t := 0) (e := w32 ((((ctB (fun j => decide (m 208 (5 * j + t) = (a : Int))) j : Nat) : Int)) + 1)) (z := ((ctB (fun j => decide (m 208 (5 * j + t) = (a : Int))) j : Nat) : Int) + 1) r_199_72 rfl rfl rfl (w32_eq (by omega) (by omega) (by omega)) ?_
        refine gx_st (L' := [(2, 192), (0, f), (0, (t : Int)), (0, y), (0, (a : Int)), (0, ((ctB (fun j => decide (m 208 (5 * j + t) = (a : Int))) j : Nat) : Int) + 1), (0, (j : Int))]) (S' := []) r_199_73 rfl rfl rfl ?_
        refine gx_li (z := (j : Int) + 1) (L' := [(2, 192), (0, f), (0, (t : Int)), (0, y), (0, (a : Int)), (0, ((ctB (fun j => decide (m 208 (5 * j + t) = (a : Int))) j : Nat) : Int) + 1), (0, (j : Int) + 1)]) r_199_75 rfl (w32_eq (by omega) (by omega) (by omega)) rfl ?_
        refine gx_st (L' := [(2, 192), (0, f), (0, (t : Int)), (0, y), (0, (a : Int)), (0, ((ctB (fun j => decide (m 208 (5 * j + t) = (a : Int))) j : Nat) : Int) + 1), (0, (j : Int) + 1)]) (S' := []) r_199_78 rfl rfl rfl ?_
        have z := ih (j + 1) (by omega) (by omega)
        rw [ctB_y (p := fun j => decide (m 208 (5 * j + t) = (a : Int))) (decide_eq_true h64)] at z
        exact z
theorem amt_l (hT : TT T) (hp : PinR m) {f : Int} {t M : Nat} (ht : t < 5) (hM : M ≤ 91) (h34 : m 192 34 = (M : Int)) {Q : AV → Mm → Prop} (hQ : ∀ x5 x6 : AV, GX T 1 199 94 [(2, 192), (0, f), (0, (t : Int)), (0, (mxF (fun a => ((ctB (fun j => decide (m 208 (5 * j + t) = (a : Int))) M : Nat) : Int)) 10)), (0, 10), x5, x6] [] m Q) : ∀ (N a : Nat) (x5 x6 : AV), 10 - a < N → a ≤ 10 → GX T 1 199 27 [(2, 192), (0, f), (0, (t : Int)), (0, (mxF (fun a => ((ctB (fun j => decide (m 208 (5 * j + t) = (a : Int))) M : Nat) : Int)) a)), (0, (a : Int)), x5, x6] [] m Q := by
  intro N
  induction N with
  | zero => intro a x5 x6 hN; exact absurd hN (Nat.not_lt_zero _)
  | succ N ih =>
    intro a x5 x6 hN ha
    refine gx_st (L' := [(2, 192), (0, f), (0, (t : Int)), (0, (mxF (fun a => ((ctB (fun j => decide (m 208 (5 * j + t) = (a : Int))) M : Nat) : Int)) a)), (0, (a : Int)), x5, x6]) (S' := [(0, (a : Int))]) r_199_27 rfl rfl rfl ?_
    refine gx_st (L' := [(2, 192), (0, f), (0, (t : Int)), (0, (mxF (fun a => ((ctB (fun j => decide (m 208 (5 * j + t) = (a : Int))) M : Nat) : Int)) a)), (0, (a : Int)), x5, x6]) (S' := [(0, 10), (0, (a : Int))]) r_199_29 rfl rfl rfl ?_
    refine gx_ic (P := 10 ≤ (a : Int)) r_199_31 (rfl) (fun h31 => ?_) (fun h31 => ?_)
    · have h10 : a = 10 := by omega
      subst h10
      exact hQ x5 x6
    · refine gx_st (L' := [(2, 192), (0, f), (0, (t : Int)), (0, (mxF (fun a => ((ctB (fun j => decide (m 208 (5 * j + t) = (a : Int))) M : Nat) : Int)) a)), (0, (a : Int)), x5, x6]) (S' := [(0, 0)]) r_199_34 rfl rfl rfl ?_
      refine gx_st (L' := [(2, 192), (0, f), (0, (t : Int)), (0, (mxF (fun a => ((ctB (fun j => decide (m 208 (5 * j + t) = (a : Int))) M : Nat) : Int)) a)), (0, (a : Int)), (0, 0), x6]) (S' := []) r_199_35 rfl rfl rfl ?_
      refine gx_st (L' := [(2, 192), (0, f), (0, (t : Int)), (0, (mxF (fun a => ((ctB (fun j => decide (m 208 (5 * j + t) = (a : Int))) M : Nat) : Int)) a)), (0, (a : Int)), (0, 0), x6]) (S' := [(0, 0)]) r_199_37 rfl rfl rfl ?_
      refine gx_st (L' := [(2, 192), (0, f), (0, (t : Int)), (0, (mxF (fun a => ((ctB (fun j => decide (m 208 (5 * j + t) = (a : Int))) M : Nat) : Int)) a)), (0, (a : Int)), (0, 0), (0, 0)]) (S' := []) r_199_38 rfl rfl rfl ?_
      refine cnt_l hT hp (t := t) (a := a) (M := M) ht (by omega) hM h34 ?_ (M + 1) 0 (by omega) (by omega)
      refine gx_st (L' := [(2, 192), (0, f), (0, (t : Int)), (0, (mxF (fun a => ((ctB (fun j => decide (m 208 (5 * j + t) = (a : Int))) M : Nat) : Int)) a)), (0, (a : Int)), (0, ((ctB (fun j => decide (m 208 (5 * j + t) = (a : Int))) M : Nat) : Int)), (0, (M : Int))]) (S' := [(0, (mxF (fun a => ((ctB (fun j => decide (m 208 (5 * j + t) = (a : Int))) M : Nat) : Int)) a))]) r_199_81 rfl rfl rfl ?_
      refine gx_st (L' := [(2, 192), (0, f), (0, (t : Int)), (0, (mxF (fun a => ((ctB (fun j => decide (m 208 (5 * j + t) = (a : Int))) M : Nat) : Int)) a)), (0, (a : Int)), (0, ((ctB (fun j => decide (m 208 (5 * j + t) = (a : Int))) M : Nat) : Int)), (0, (M : Int))]) (S' := [(0, ((ctB (fun j => decide (m 208 (5 * j + t) = (a : Int))) M : Nat) : Int)), (0, (mxF (fun a => ((ctB (fun j => decide (m 208 (5 * j + t) = (a : Int))) M : Nat) : Int)) a))]) r_199_82 rfl rfl rfl ?_
      refine gx_st (L' := [(2, 192), (0, f), (0, (t : Int)), (0, (mxF (fun a => ((ctB (fun j => decide (m 208 (5 * j + t) = (a : Int))) M : Nat) : Int)) a)), (0, (a : Int)), (0, ((ctB (fun j => decide (m 208 (5 * j + t) = (a : Int))) M : Nat) : Int)), (0, (M : Int))]) (S' := [(0, (max ((mxF (fun a => ((ctB (fun j => decide (m 208 (5 * j + t) = (a : Int))) M : Nat) : Int)) a)) (((ctB (fun j => decide (m 208 (5 * j + t) = (a : Int))) M : Nat) : Int))))]) r_199_84 rfl rfl rfl ?_
      refine gx_st (L' := [(2, 192), (0, f), (0, (t : Int)), (0, (max ((mxF (fun a => ((ctB (fun j => decide (m 208 (5 * j + t) = (a : Int))) M : Nat) : Int)) a)) (((ctB (fun j => decide (m 208 (5 * j + t) = (a : Int))) M : Nat) : Int)))), (0, (a : Int)), (0, ((ctB (fun j => decide (m 208 (5 * j + t) = (a : Int))) M : Nat) : Int)), (0, (M : Int))]) (S' := []) r_199_87 rfl rfl rfl ?_
      refine gx_li (z := (a : Int) + 1) (L' := [(2, 192), (0, f), (0, (t : Int)), (0, (max ((mxF (fun a => ((ctB (fun j => decide (m 208 (5 * j + t) = (a : Int))) M : Nat) : Int)) a)) (((ctB (fun j => decide (m 208 (5 * j + t) = (a : Int))) M : Nat) : Int)))), (0, (a : Int) + 1), (0, ((ctB (fun j => decide (m 208 (5 * j + t) = (a : Int))) M : Nat) : Int)), (0, (M : Int))]) r_199_88 rfl (w32_eq (by omega) (by omega) (by omega)) rfl ?_
      refine gx_st (L' := [(2, 192), (0, f), (0, (t : Int)), (0, (max ((mxF (fun a => ((ctB (fun j => decide (m 208 (5 * j + t) = (a : Int))) M : Nat) : Int)) a)) (((ctB (fun j => decide (m 208 (5 * j + t) = (a : Int))) M : Nat) : Int)))), (0, (a : Int) + 1), (0, ((ctB (fun j => decide (m 208 (5 * j + t) = (a : Int))) M : Nat) : Int)), (0, (M : Int))]) (S' := []) r_199_91 rfl rfl rfl ?_
      rw [show (a : Int) + 1 = ((a + 1 : Nat) : Int) from rfl]
      exact ih (a + 1) _ _ (by omega) (by omega)
theorem tre_l (hT : TT T) {m0 : Mm} (hp0 : PinR m0) {M tr : Nat} (hM : M ≤ 91) (h34 : m0 192 34 = (M : Int)) (h5 : m0 193 5 = (tr : Int)) (tr5 : tr ≤ 5) : ∀ (N t : Nat) (m : Mm) (x3 x4 x5 x6 : AV), tr - t < N → t ≤ tr → (∀ x i : Nat, ¬ (x = 192 ∧ i = 35) → m x i = m0 x i) → m 192 35 = (btF (fun t => (mxF (fun a => ((ctB (fun j => decide (m0 208 (5 * j + t) = (a : Int))) M : Nat) : Int)) 10)) (M : Int) t).2 → GX T 1 199 12 [(2, 192), (0, ((btF (fun t => (mxF (fun a => ((ctB (fun j => decide (m0 208 (5 * j + t) = (a : Int))) M : Nat) : Int)) 10)) (M : Int) t).1)), (0, (t : Int)), x3, x4, x5, x6] [] m (RI (fun v m1 => v = ((btF (fun t => (mxF (fun a => ((ctB (fun j => decide (m0 208 (5 * j + t) = (a : Int))) M : Nat) : Int)) 10)) (M : Int) tr)).1)) := by
  intro N
  induction N with
  | zero => intro t m x3 x4 x5 x6 hN; exact absurd hN (Nat.not_lt_zero _)
  | succ N ih =>
    intro t m x3 x4 x5 x6 hN ht ef e35
    have hp : PinR m := fun o i hq => (ef o i (fun z => hq (by rw [z.1, z.2]; rfl))).trans (hp0 o i hq)
    have e208 : m 208 = m0 208 := funext fun i => ef 208 i (by omega)
    have hz := btF_le (M := (fun t => (mxF (fun a => ((ctB (fun j => decide (m0 208 (5 * j + t) = (a : Int))) M : Nat) : Int)) 10))) (p := (M : Int)) (B := 91) (by omega) t (fun i _ => (mxF_in (B := 91) (by decide) 10 (fun a _ => by
      have z : ctB (fun j => decide (m0 208 (5 * j + i) = (a : Int))) M ≤ M := ctB_le M
      omega)).1)
    refine gx_st (L' := [(2, 192), (0, ((btF (fun t => (mxF (fun a => ((ctB (fun j => decide (m0 208 (5 * j + t) = (a : Int))) M : Nat) : Int)) 10)) (M : Int) t).1)), (0, (t : Int)), x3, x4, x5, x6]) (S' := [(0, (t : Int))]) r_199_12 rfl rfl rfl ?_
    refine gx_st (L' := [(2, 192), (0, ((btF (fun t => (mxF (fun a => ((ctB (fun j => decide (m0 208 (5 * j + t) = (a : Int))) M : Nat) : Int)) 10)) (M : Int) t).1)), (0, (t : Int)), x3, x4, x5, x6]) (S' := [(2, 192), (0, (t : Int))]) r_199_13 rfl rfl rfl ?_
    refine gx_gf (x := 193) 2 r_199_14 (rfl) (ty_192 hT) ⟨by decide, rfl, by decide, by decide⟩ rfl (fun _ => by omega) (pin_at hp (t := 193) rfl (by decide)) ?_
    refine gx_st (L' := [(2, 192), (0, ((btF (fun t => (mxF (fun a => ((ctB (fun j => decide (m0 208 (5 * j + t) = (a : Int))) M : Nat) : Int)) 10)) (M : Int) t).1)), (0, (t : Int)), x3, x4, x5, x6]) (S' := [(0, 5), (2, 193), (0, (t : Int))]) r_199_17 rfl rfl rfl ?_
    refine gx_ia (n := 5) (x := (tr : Int)) r_199_18 (rfl) (ty_193 hT) (rfl) ⟨rfl, by decide⟩ (((ef 193 5 (by omega)).trans h5)) ?_
    refine gx_ic (P := (tr : Int) ≤ (t : Int)) r_199_19 (rfl) (fun h19 => ?_) (fun h19 => ?_)
    · refine gx_st (L' := [(2, 192), (0, ((btF (fun t => (mxF (fun a => ((ctB (fun j => decide (m0 208 (5 * j + t) = (a : Int))) M : Nat) : Int)) 10)) (M : Int) t).1)), (0, (t : Int)), x3, x4, x5, x6]) (S' := [(0, ((btF (fun t => (mxF (fun a => ((ctB (fun j => decide (m0 208 (5 * j + t) = (a : Int))) M : Nat) : Int)) 10)) (M : Int) t).1))]) r_199_118 rfl rfl rfl ?_
      have htr : t = tr := by omega
      subst htr
      exact gx_rt r_199_119 rfl rfl ⟨_, rfl, rfl⟩
    · refine gx_st (L' := [(2, 192), (0, ((btF (fun t => (mxF (fun a => ((ctB (fun j => decide (m0 208 (5 * j + t) = (a : Int))) M : Nat) : Int)) 10)) (M : Int) t).1)), (0, (t : Int)), x3, x4, x5, x6]) (S' := [(0, 0)]) r_199_22 rfl rfl rfl ?_
      refine gx_st (L' := [(2, 192), (0, ((btF (fun t => (mxF (fun a => ((ctB (fun j => decide (m0 208 (5 * j + t) = (a : Int))) M : Nat) : Int)) 10)) (M : Int) t).1)), (0, (t : Int)), (0, 0), x4, x5, x6]) (S' := []) r_199_23 rfl rfl rfl ?_
      refine gx_st (L' := [(2, 192), (0, ((btF (fun t => (mxF (fun a => ((ctB (fun j => decide (m0 208 (5 * j + t) = (a : Int))) M : Nat) : Int)) 10)) (M : Int) t).1)), (0, (t : Int)), (0, 0), x4, x5, x6]) (S' := [(0, 0)]) r_199_24 rfl rfl rfl ?_
      refine gx_st (L' := [(2, 192), (0, ((btF (fun t => (mxF (fun a => ((ctB (fun j => decide (m0 208 (5 * j + t) = (a : Int))) M : Nat) : Int)) 10)) (M : Int) t).1)), (0, (t : Int)), (0, 0), (0, 0), x5, x6]) (S' := []) r_199_25 rfl rfl rfl ?_
      refine amt_l hT hp (t := t) (M := M) (by omega) hM ((ef 192 34 (by omega)).trans h34) (fun y5 y6 => ?_) 11 0 _ _ (by omega) (by omega)
      rw [e208]
      show GX T 1 199 94 [(2, 192), (0, ((btF (fun t => (mxF (fun a => ((ctB (fun j => decide (m0 208 (5 * j + t) = (a : Int))) M : Nat) : Int)) 10)) (M : Int) t).1)), (0, (t : Int)), (0, (mxF (fun a => ((ctB (fun j => decide (m0 208 (5 * j + t) = (a : Int))) M : Nat) : Int)) 10)), (0, 10), y5, y6] [] m (RI (fun v m1 => v = ((btF (fun t => (mxF (fun a => ((ctB (fun j => decide (m0 208 (5 * j + t) = (a : Int))) M : Nat) : Int)) 10)) (M : Int) tr)).1))
      refine gx_st (L' := [(2, 192), (0, ((btF (fun t => (mxF (fun a => ((ctB (fun j => decide (m0 208 (5 * j + t) = (a : Int))) M : Nat) : Int)) 10)) (M : Int) t).1)), (0, (t : Int)), (0, (mxF (fun a => ((ctB (fun j => decide (m0 208 (5 * j + t) = (a : Int))) M : Nat) : Int)) 10)), (0, 10), y5, y6]) (S' := [(0, (mxF (fun a => ((ctB (fun j => decide (m0 208 (5 * j + t) = (a : Int))) M : Nat) : Int)) 10))]) r_199_94 rfl rfl rfl ?_
      refine gx_st (L' := [(2, 192), (0, ((btF (fun t => (mxF (fun a => ((ctB (fun j => decide (m0 208 (5 * j + t) = (a : Int))) M : Nat) : Int)) 10)) (M : Int) t).1)), (0, (t : Int)), (0, (mxF (fun a => ((ctB (fun j => decide (m0 208 (5 * j + t) = (a : Int))) M : Nat) : Int)) 10)), (0, 10), y5, y6]) (S' := [(2, 192), (0, (mxF (fun a => ((ctB (fun j => decide (m0 208 (5 * j + t) = (a : Int))) M : Nat) : Int)) 10))]) r_199_95 rfl rfl rfl ?_
      refine gx_gf (x := ((btF (fun t => (mxF (fun a => ((ctB (fun j => decide (m0 208 (5 * j + t) = (a : Int))) M : Nat) : Int)) 10)) (M : Int) t).2)) 0 r_199_96 (rfl) (ty_192 hT) ⟨by decide, rfl, by decide, by decide⟩ rfl (fun z => absurd z (by decide)) (e35) ?_
      refine gx_ic (P := (mxF (fun a => ((ctB (fun j => decide (m0 208 (5 * j + t) = (a : Int))) M : Nat) : Int)) 10) < ((btF (fun t => (mxF (fun a => ((ctB (fun j => decide (m0 208 (5 * j + t) = (a : Int))) M : Nat) : Int)) 10)) (M : Int) t).2)) r_199_99 (rfl) (fun h99 => ?_) (fun h99 => ?_)
      · refine gx_st (L' := [(2, 192), (0, ((btF (fun t => (mxF (fun a => ((ctB (fun j => decide (m0 208 (5 * j + t) = (a : Int))) M : Nat) : Int)) 10)) (M : Int) t).1)), (0, (t : Int)), (0, (mxF (fun a => ((ctB (fun j => decide (m0 208 (5 * j + t) = (a : Int))) M : Nat) : Int)) 10)), (0, 10), y5, y6]) (S' := [(2, 192)]) r_199_105 rfl rfl rfl ?_
        refine gx_st (L' := [(2, 192), (0, ((btF (fun t => (mxF (fun a => ((ctB (fun j => decide (m0 208 (5 * j + t) = (a : Int))) M : Nat) : Int)) 10)) (M : Int) t).1)), (0, (t : Int)), (0, (mxF (fun a => ((ctB (fun j => decide (m0 208 (5 * j + t) = (a : Int))) M : Nat) : Int)) 10)), (0, 10), y5, y6]) (S' := [(0, (mxF (fun a => ((ctB (fun j => decide (m0 208 (5 * j + t) = (a : Int))) M : Nat) : Int)) 10)), (2, 192)]) r_199_106 rfl rfl rfl ?_
        obtain ⟨m1, e_m1⟩ : ∃ z, z = nu_up m 192 35 ((mxF (fun a => ((ctB (fun j => decide (m0 208 (5 * j + t) = (a : Int))) M : Nat) : Int)) 10)) := ⟨_, rfl⟩
        refine gx_pf (x := (mxF (fun a => ((ctB (fun j => decide (m0 208 (5 * j + t) = (a : Int))) M : Nat) : Int)) 10)) 0 r_199_107 (rfl) (ty_192 hT) ⟨by decide, rfl, by decide, by decide⟩ rfl (fun z => absurd z (by decide)) (fun z => absurd z (by decide)) e_m1.symm ?_
        refine gx_st (L' := [(2, 192), (0, ((btF (fun t => (mxF (fun a => ((ctB (fun j => decide (m0 208 (5 * j + t) = (a : Int))) M : Nat) : Int)) 10)) (M : Int) t).1)), (0, (t : Int)), (0, (mxF (fun a => ((ctB (fun j => decide (m0 208 (5 * j + t) = (a : Int))) M : Nat) : Int)) 10)), (0, 10), y5, y6]) (S' := [(0, (t : Int))]) r_199_110 rfl rfl rfl ?_
        refine gx_st (L' := [(2, 192), (0, (t : Int)), (0, (t : Int)), (0, (mxF (fun a => ((ctB (fun j => decide (m0 208 (5 * j + t) = (a : Int))) M : Nat) : Int)) 10)), (0, 10), y5, y6]) (S' := []) r_199_111 rfl rfl rfl ?_
        refine gx_li (z := (t : Int) + 1) (L' := [(2, 192), (0, (t : Int)), (0, (t : Int) + 1), (0, (mxF (fun a => ((ctB (fun j => decide (m0 208 (5 * j + t) = (a : Int))) M : Nat) : Int)) 10)), (0, 10), y5, y6]) r_199_112 rfl (w32_eq (by omega) (by omega) (by omega)) rfl ?_
        refine gx_st (L' := [(2, 192), (0, (t : Int)), (0, (t : Int) + 1), (0, (mxF (fun a => ((ctB (fun j => decide (m0 208 (5 * j + t) = (a : Int))) M : Nat) : Int)) 10)), (0, 10), y5, y6]) (S' := []) r_199_115 rfl rfl rfl ?_
        rw [show (t : Int) + 1 = ((t + 1 : Nat) : Int) from rfl]
        have eb : (btF (fun t => (mxF (fun a => ((ctB (fun j => decide (m0 208 (5 * j + t) = (a : Int))) M : Nat) : Int)) 10)) (M : Int) (t + 1)) = ((t : Int), (mxF (fun a => ((ctB (fun j => decide (m0 208 (5 * j + t) = (a : Int))) M : Nat) : Int)) 10)) := if_pos h99
        have z := ih (t + 1) m1 (0, (mxF (fun a => ((ctB (fun j => decide (m0 208 (5 * j + t) = (a : Int))) M : Nat) : Int)) 10)) (0, 10) y5 y6 (by omega) (by omega) (fun x i hx => by rw [e_m1, nu_nf hx]; exact ef x i hx) (by rw [eb, e_m1, nu_at])
        rw [eb] at z
        exact z
      · refine gx_st (L' := [(2, 192), (0, ((btF (fun t => (mxF (fun a => ((ctB (fun j => decide (m0 208 (5 * j + t) = (a : Int))) M : Nat) : Int)) 10)) (M : Int) t).1)), (0, (t : Int)), (0, (mxF (fun a => ((ctB (fun j => decide (m0 208 (5 * j + t) = (a : Int))) M : Nat) : Int)) 10)), (0, 10), y5, y6]) (S' := []) r_199_102 rfl rfl rfl ?_
        refine gx_li (z := (t : Int) + 1) (L' := [(2, 192), (0, ((btF (fun t => (mxF (fun a => ((ctB (fun j => decide (m0 208 (5 * j + t) = (a : Int))) M : Nat) : Int)) 10)) (M : Int) t).1)), (0, (t : Int) + 1), (0, (mxF (fun a => ((ctB (fun j => decide (m0 208 (5 * j + t) = (a : Int))) M : Nat) : Int)) 10)), (0, 10), y5, y6]) r_199_112 rfl (w32_eq (by omega) (by omega) (by omega)) rfl ?_
        refine gx_st (L' := [(2, 192), (0, ((btF (fun t => (mxF (fun a => ((ctB (fun j => decide (m0 208 (5 * j + t) = (a : Int))) M : Nat) : Int)) 10)) (M : Int) t).1)), (0, (t : Int) + 1), (0, (mxF (fun a => ((ctB (fun j => decide (m0 208 (5 * j + t) = (a : Int))) M : Nat) : Int)) 10)), (0, 10), y5, y6]) (S' := []) r_199_115 rfl rfl rfl ?_
        rw [show (t : Int) + 1 = ((t + 1 : Nat) : Int) from rfl]
        have eb : (btF (fun t => (mxF (fun a => ((ctB (fun j => decide (m0 208 (5 * j + t) = (a : Int))) M : Nat) : Int)) 10)) (M : Int) (t + 1)) = (btF (fun t => (mxF (fun a => ((ctB (fun j => decide (m0 208 (5 * j + t) = (a : Int))) M : Nat) : Int)) 10)) (M : Int) t) := if_neg (by omega)
        have z := ih (t + 1) m (0, (mxF (fun a => ((ctB (fun j => decide (m0 208 (5 * j + t) = (a : Int))) M : Nat) : Int)) 10)) (0, 10) y5 y6 (by omega) (by omega) ef (by rw [eb]; exact e35)
        rw [eb] at z
        exact z
theorem y_199 (hT : TT T) {m0 : Mm} (hp0 : PinR m0) {M tr : Nat} (hM : M ≤ 91) (h34 : m0 192 34 = (M : Int)) (h5 : m0 193 5 = (tr : Int)) (tr5 : tr ≤ 5) : GX T 1 199 0 [(2, 192), (9, 0), (9, 0), (9, 0), (9, 0), (9, 0), (9, 0)] [] m0 (RI (fun v m1 => v = ((btF (fun t => (mxF (fun a => ((ctB (fun j => decide (m0 208 (5 * j + t) = (a : Int))) M : Nat) : Int)) 10)) (M : Int) tr)).1)) := by
  refine gx_st (L' := [(2, 192), (9, 0), (9, 0), (9, 0), (9, 0), (9, 0), (9, 0)]) (S' := [(2, 192)]) r_199_0 rfl rfl rfl ?_
  refine gx_st (L' := [(2, 192), (9, 0), (9, 0), (9, 0), (9, 0), (9, 0), (9, 0)]) (S' := [(2, 192), (2, 192)]) r_199_1 rfl rfl rfl ?_
  refine gx_gf (x := (M : Int)) 0 r_199_2 (rfl) (ty_192 hT) ⟨by decide, rfl, by decide, by decide⟩ rfl (fun z => absurd z (by decide)) (h34) ?_
  obtain ⟨m1, e_m1⟩ : ∃ z, z = nu_up m0 192 35 (M : Int) := ⟨_, rfl⟩
  refine gx_pf (x := (M : Int)) 0 r_199_5 (rfl) (ty_192 hT) ⟨by decide, rfl, by decide, by decide⟩ rfl (fun z => absurd z (by decide)) (fun z => absurd z (by decide)) e_m1.symm ?_
  refine gx_st (L' := [(2, 192), (9, 0), (9, 0), (9, 0), (9, 0), (9, 0), (9, 0)]) (S' := [(0, (-1))]) r_199_8 rfl rfl rfl ?_
  refine gx_st (L' := [(2, 192), (0, (-1)), (9, 0), (9, 0), (9, 0), (9, 0), (9, 0)]) (S' := []) r_199_9 rfl rfl rfl ?_
  refine gx_st (L' := [(2, 192), (0, (-1)), (9, 0), (9, 0), (9, 0), (9, 0), (9, 0)]) (S' := [(0, 0)]) r_199_10 rfl rfl rfl ?_
  refine gx_st (L' := [(2, 192), (0, (-1)), (0, 0), (9, 0), (9, 0), (9, 0), (9, 0)]) (S' := []) r_199_11 rfl rfl rfl ?_
  have z := tre_l hT hp0 hM h34 h5 tr5 (tr + 1) 0 m1 (9, 0) (9, 0) (9, 0) (9, 0) (by omega) (by omega) (fun x i hx => by rw [e_m1, nu_nf hx]) (by rw [e_m1, nu_at]; rfl)
  exact z
theorem y_174f (hT : TT T) (hp : PinR m) (hm : Gam m) (hx : Ext m) : GX T 4 174 0 [(2, 192), (9, 0)] [] m (RV (fun m1 => (AsF m1 ∧ ∀ h : Nat, h < 12 → m1 203 h = 0) ∧ PinR m1 ∧ Gam m1 ∧ FS m1 ∧ m1 193 = m 193 ∧ (∀ i : Nat, m1 209 i = m 209 i) ∧ ∀ i : Nat, m1 211 i = m 211 i)) :=
  gx_imp (gx_av (v_174 hT hp hm hx) (gx_xv (args := [(2, 192)]) (pu_174 hT) ⟨gq_o192, trivial⟩ hm hx (fun z => absurd z (by decide)) rfl)) (fun v m1 ⟨e, a, g, y, f, s⟩ => ⟨e, a, PinR_fr f (by decide) hp, g, s rfl, funext (Fr_cell (o := 193) f (by decide) (by decide)), Fr_cell (o := 209) f (by decide) (by decide), Fr_cell (o := 211) f (by decide) (by decide)⟩)
theorem v_195 (hT : TT T) (hp : PinR m) (hm : Gam m) (hx : Ext m) (wb : WB (pw (m 193))) (wp : WP (pw (m 193))) {n : Nat} (hn : m 193 1 = (n : Int)) {tr : Nat} (h5 : m 193 5 = (tr : Int)) (a : Int) : GX T 7 195 0 [(2, 192), (0, a), (9, 0), (9, 0), (9, 0), (9, 0)] [] m (RI (fun v m1 => A195 n tr m m1 a v)) := by
  have b1 := gb_193_1 hm
  have b5 := gb_193_5 hm
  have b0 := wb.1
  refine gx_st (L' := [(2, 192), (0, a), (9, 0), (9, 0), (9, 0), (9, 0)]) (S' := [(0, a)]) r_195_0 rfl rfl rfl ?_
  refine gx_ci (nx := 4) (S2 := []) (x_226 a) r_195_1 rfl rfl rfl rfl rfl rfl rfl (by decide) rfl (fun x1 n1 q1 => ?_)
  obtain rfl := q1.1.symm
  obtain rfl := q1.2.symm
  show GX T 7 195 4 [(2, 192), (0, a), (9, 0), (9, 0), (9, 0), (9, 0)] [(0, (if 0 ≤ a ∧ a ≤ 3 then 1 else 0))] m (RI (fun v m1 => A195 n tr m m1 a v))
  refine gx_i0 (P := ¬ (0 ≤ a ∧ a ≤ 3)) r_195_4 (b01_eq) (fun h4 => ?_) (fun h4 => ?_)
  · refine gx_st (L' := [(2, 192), (0, a), (9, 0), (9, 0), (9, 0), (9, 0)]) (S' := [(0, (-2))]) r_195_14 rfl rfl rfl ?_
    exact gx_rt r_195_16 rfl rfl ⟨_, rfl, fun _ => rfl, fun i2 hi2 h2 h3 => by omega⟩
  · have h4 := Decidable.not_not.mp h4
    refine gx_st (L' := [(2, 192), (0, a), (9, 0), (9, 0), (9, 0), (9, 0)]) (S' := [(2, 192)]) r_195_7 rfl rfl rfl ?_
    refine gx_ci (nx := 11) (S2 := []) (x_90 hT hm) r_195_8 rfl rfl rfl rfl rfl (rcv_v rfl (ty_192 hT) (by decide) rfl (by decide)) rfl (by decide) rfl (fun x8 n8 q8 => ?_)
    obtain rfl := q8.1.symm
    obtain rfl := q8.2.symm
    show GX T 7 195 11 [(2, 192), (0, a), (9, 0), (9, 0), (9, 0), (9, 0)] [(0, (if 0 < m 193 9 then 1 else 0))] m (RI (fun v m1 => A195 n tr m m1 a v))
    refine gx_i0 (P := 0 < m 193 9) r_195_11 (b01_ne) (fun h11 => ?_) (fun h11 => ?_)
    · obtain ⟨ii, hia⟩ : ∃ i : Nat, a = (i : Int) := ⟨a.toNat, by omega⟩
      have hi : ii < 4 := by omega
      have bc := gb_209 hm hi
      rw [hia]
      refine gx_st (L' := [(2, 192), (0, (ii : Int)), (9, 0), (9, 0), (9, 0), (9, 0)]) (S' := [(2, 192)]) r_195_17 rfl rfl rfl ?_
      refine gx_gf (x := 209) 2 r_195_18 (rfl) (ty_192 hT) ⟨by decide, rfl, by decide, by decide⟩ rfl (fun _ => by omega) (pin_at hp (t := 209) rfl (by decide)) ?_
      refine gx_st (L' := [(2, 192), (0, (ii : Int)), (9, 0), (9, 0), (9, 0), (9, 0)]) (S' := [(0, (ii : Int)), (2, 209)]) r_195_21 rfl rfl rfl ?_
      refine gx_ia (n := ii) (x := (m 209 ii)) r_195_22 (rfl) (ty_209 hT) (by omega) ⟨rfl, by omega⟩ (rfl) ?_
      refine gx_st (L' := [(2, 192), (0, (ii : Int)), (9, 0), (9, 0), (9, 0), (9, 0)]) (S' := [(0, (-1)), (0, (m 209 ii))]) r_195_23 rfl rfl rfl ?_
      refine gx_ic (P := ¬ (m 209 ii) = (-1)) r_195_24 (rfl) (fun h24 => ?_) (fun h24 => ?_)
      · obtain ⟨c, hc⟩ : ∃ c : Nat, m 209 ii = (c : Int) := ⟨(m 209 ii).toNat, by omega⟩
        refine gx_st (L' := [(2, 192), (0, (ii : Int)), (9, 0), (9, 0), (9, 0), (9, 0)]) (S' := [(2, 192)]) r_195_30 rfl rfl rfl ?_
        refine gx_gf (x := 209) 2 r_195_31 (rfl) (ty_192 hT) ⟨by decide, rfl, by decide, by decide⟩ rfl (fun _ => by omega) (pin_at hp (t := 209) rfl (by decide)) ?_
        refine gx_st (L' := [(2, 192), (0, (ii : Int)), (9, 0), (9, 0), (9, 0), (9, 0)]) (S' := [(0, (ii : Int)), (2, 209)]) r_195_34 rfl rfl rfl ?_
        refine gx_ia (n := ii) (x := (c : Int)) r_195_35 (rfl) (ty_209 hT) (by omega) ⟨rfl, by omega⟩ (hc) ?_
        refine gx_st (L' := [(2, 192), (0, (ii : Int)), (9, 0), (9, 0), (9, 0), (9, 0)]) (S' := [(0, 2), (0, (c : Int))]) r_195_36 rfl rfl rfl ?_
        refine gx_rm (z := ((c : Int) % 2)) r_195_37 (by decide) (tm_eq (by omega) rfl) ?_
        refine gx_i0 (P := ((c : Int) % 2) = 0) r_195_38 (rfl) (fun h38 => ?_) (fun h38 => ?_)
        · refine gx_st (L' := [(2, 192), (0, (ii : Int)), (9, 0), (9, 0), (9, 0), (9, 0)]) (S' := [(0, 0)]) r_195_44 rfl rfl rfl ?_
          refine gx_st (L' := [(2, 192), (0, (ii : Int)), (0, 0), (9, 0), (9, 0), (9, 0)]) (S' := []) r_195_45 rfl rfl rfl ?_
          obtain ⟨q, hq⟩ : ∃ q : Nat, c = 2 * q := ⟨c / 2, by omega⟩
          have hcq : m 209 ii = 2 * (q : Int) := by omega
          refine ck_l hT hm hp hi (q := q) hcq (by omega) h5 (fun hs => ?_) (fun hs => ⟨_, rfl, fun z => absurd ⟨h11, by omega, by omega⟩ z, fun i2 hi2 h2 _ => ?_⟩) (q + 1) 0 (by omega) (by omega) rfl
          rotate_left
          · have e : i2 = ii := by omega
            rw [e]
            exact ⟨fun z => by omega, fun c2 hc2 => ⟨fun _ => rfl, fun q2 hq2 hs2 => absurd (by rw [show q = q2 by omega]; exact hs2) hs⟩⟩
          refine gx_st (L' := [(2, 192), (0, (ii : Int)), (0, 2 * (q : Int)), (9, 0), (9, 0), (9, 0)]) (S' := [(2, 192)]) r_195_96 rfl rfl rfl ?_
          refine gx_cv (nx := 100) (S2 := []) (y_174f hT hp hm hx) r_195_97 rfl rfl rfl rfl rfl (rcv_v rfl (ty_192 hT) (by decide) rfl (by decide)) rfl (by decide) rfl (fun n97 q97 => ?_)
          obtain ⟨⟨a1, a2⟩, hp1, gm1, fs1, e193, e209, e211⟩ := q97
          show GX T 7 195 100 [(2, 192), (0, (ii : Int)), (0, 2 * (q : Int)), (9, 0), (9, 0), (9, 0)] [] n97 (RI (fun v m1 => A195 n tr m m1 (ii : Int) v))
          refine gx_st (L' := [(2, 192), (0, (ii : Int)), (0, 2 * (q : Int)), (9, 0), (9, 0), (9, 0)]) (S' := [(2, 192)]) r_195_100 rfl rfl rfl ?_
          refine gx_st (L' := [(2, 192), (0, (ii : Int)), (0, 2 * (q : Int)), (9, 0), (9, 0), (9, 0)]) (S' := [(0, 0), (2, 192)]) r_195_101 rfl rfl rfl ?_
          obtain ⟨m1, e_m1⟩ : ∃ z, z = nu_up n97 192 34 0 := ⟨_, rfl⟩
          refine gx_pf (x := 0) 0 r_195_102 (rfl) (ty_192 hT) ⟨by decide, rfl, by decide, by decide⟩ rfl (fun z => absurd z (by decide)) (fun z => absurd z (by decide)) e_m1.symm ?_
          refine gx_st (L' := [(2, 192), (0, (ii : Int)), (0, 2 * (q : Int)), (9, 0), (9, 0), (9, 0)]) (S' := [(0, 0)]) r_195_105 rfl rfl rfl ?_
          refine gx_st (L' := [(2, 192), (0, (ii : Int)), (0, 0), (9, 0), (9, 0), (9, 0)]) (S' := []) r_195_106 rfl rfl rfl ?_
          have hw1 : WyD (pw (m 193)) (fun x y => n97 199 (7 * x + y)) := by
            rw [wyD_pw, ← e193]; exact fs1
          have ea := ew_as gm1 a1
          rw [e193] at ea
          have hp2 : PinR m1 := by rw [e_m1]; exact PinR_up hp1 rfl
          have f1 : ∀ x i : Nat, ¬ (x = 192 ∧ i = 34) → m1 x i = n97 x i := fun x i hx => by rw [e_m1, nu_nf hx]
          refine gx_imp (pl_l hT hp2 hi (N := (fun k => m 211 (60 * ii + k))) (fun i _ => (f1 211 _ (by omega)).trans (e211 _)) (w := pw (m 193)) (D := fun x y => n97 199 (7 * x + y)) (n := n) (q := q) (tr := tr) (by omega) ((f1 193 1 (by omega)).trans ((congrFun e193 1).trans hn)) ((f1 209 ii (by omega)).trans ((e209 ii).trans hcq)) (by omega) hs (by omega) wb (ew_e ea (fun i => f1 193 i (by omega)) (fun i i1 i2 => f1 192 i (by omega))) wp (fun a b _ _ => f1 199 _ (by omega)) hw1 (wbf_pw hm) (fun h hh => (f1 203 h (by omega)).trans (a2 h hh)) (by rw [pw_at (by decide) (by decide)]; exact hn) (c := (pw (m 193) 0).toNat) (by omega) ((pw (m 193) 0).toNat + 1) 0 m1 _ _ _ (by omega) (by omega) rkf_rf ⟨0, by rw [e_m1, nu_at]; rfl, rfl, fun t a _ _ _ => rfl⟩) (fun v m1 ⟨x, e, e0, rf, ri⟩ => ⟨x, e, fun z => absurd ⟨h11, by omega, by omega⟩ z, fun i2 hi2 h2 _ => ?_⟩)
          have ei : i2 = ii := by omega
          rw [ei]
          refine ⟨fun z => by omega, fun c2 hc2 => ⟨fun z => absurd ⟨by rw [show c2 = 2 * q by omega]; exact hs, by omega⟩ z, fun q2 hq2 _ => ?_⟩⟩
          have eq : q2 = q := by omega
          rw [eq]
          exact ⟨e0, pin_rk hp2 rf, funext fun i => (rf 193 i (by omega) (by omega) (by omega) (by omega) (by omega)).trans ((f1 193 i (by omega)).trans (congrFun e193 i)), _, hw1, ri⟩
        · refine gx_st (L' := [(2, 192), (0, (ii : Int)), (9, 0), (9, 0), (9, 0), (9, 0)]) (S' := [(0, (-2))]) r_195_41 rfl rfl rfl ?_
          refine gx_rt r_195_43 rfl rfl ⟨_, rfl, fun z => absurd ⟨h11, by omega, by omega⟩ z, fun i2 hi2 h2 _ => ?_⟩
          have e : i2 = ii := by omega
          rw [e]
          exact ⟨fun z => by omega, fun c2 hc2 => ⟨fun _ => rfl, fun q hq hs => by omega⟩⟩
      · have h24 := Decidable.not_not.mp h24
        refine gx_st (L' := [(2, 192), (0, (ii : Int)), (9, 0), (9, 0), (9, 0), (9, 0)]) (S' := [(0, (-6))]) r_195_27 rfl rfl rfl ?_
        refine gx_rt r_195_29 rfl rfl ⟨_, rfl, fun z => absurd ⟨h11, by omega, by omega⟩ z, fun i2 hi2 h2 _ => ?_⟩
        have e : i2 = ii := by omega
        rw [e]
        exact ⟨fun _ => rfl, fun c2 hc2 => by omega⟩
    · refine gx_st (L' := [(2, 192), (0, a), (9, 0), (9, 0), (9, 0), (9, 0)]) (S' := [(0, (-2))]) r_195_14 rfl rfl rfl ?_
      exact gx_rt r_195_16 rfl rfl ⟨_, rfl, fun _ => rfl, fun i2 hi2 h2 h3 => by omega⟩
theorem y_200 (hT : TT T) (hp : PinR m) (hm : Gam m) (hx : Ext m) (wb : WB (pw (m 193))) (wp : WP (pw (m 193))) {n : Nat} (hn : m 193 1 = (n : Int)) {tr : Nat} (h5 : m 193 5 = (tr : Int)) (a : Int) : GX T 8 200 0 [(2, 192), (0, a), (9, 0)] [] m (RI (fun v m1 => (¬ (0 < m 193 9 ∧ 0 ≤ a ∧ a < 4) → v = -2) ∧ ∀ i : Nat, i < 4 → a = (i : Int) → 0 < m 193 9 → ∃ D : Nat → Nat → Int, WyD (pw (m 193)) D ∧ AskV (pw (m 193)) D (fun k => m 211 (60 * i + k)) n tr (pw (m 193) 0).toNat (m 209 i) v)) := by
  have b1 := gb_193_1 hm
  have b5 := gb_193_5 hm
  refine gx_st (L' := [(2, 192), (0, a), (9, 0)]) (S' := [(2, 192)]) r_200_0 rfl rfl rfl ?_
  refine gx_st (L' := [(2, 192), (0, a), (9, 0)]) (S' := [(0, a), (2, 192)]) r_200_1 rfl rfl rfl ?_
  refine gx_ci (nx := 5) (S2 := []) (v_195 hT hp hm hx wb wp hn h5 a) r_200_2 rfl rfl rfl rfl rfl (rcv_v rfl (ty_192 hT) (by decide) rfl (by decide)) rfl (by decide) rfl (fun x2 n2 q2 => ?_)
  have av := q2
  show GX T 8 200 5 [(2, 192), (0, a), (9, 0)] [(0, x2)] n2 (RI (fun v m1 => (¬ (0 < m 193 9 ∧ 0 ≤ a ∧ a < 4) → v = -2) ∧ ∀ i : Nat, i < 4 → a = (i : Int) → 0 < m 193 9 → ∃ D : Nat → Nat → Int, WyD (pw (m 193)) D ∧ AskV (pw (m 193)) D (fun k => m 211 (60 * i + k)) n tr (pw (m 193) 0).toNat (m 209 i) v))
  refine gx_st (L' := [(2, 192), (0, a), (0, x2)]) (S' := []) r_200_5 rfl rfl rfl ?_
  refine gx_st (L' := [(2, 192), (0, a), (0, x2)]) (S' := [(0, x2)]) r_200_6 rfl rfl rfl ?_
  refine gx_i0 (P := 0 ≤ x2) r_200_7 (rfl) (fun h7 => ?_) (fun h7 => ?_)
  · obtain ⟨i, q, hi, hia, h40, hsz, hs, v0, hp2, e193, D, hD, M, r1, r2, r3⟩ := a195_0 (fun i hi => (gb_209 hm hi).1) (by omega) av
    have bM := rki_M (h := 0) (by omega) r2
    have b0 := wb.1
    refine gx_st (L' := [(2, 192), (0, a), (0, x2)]) (S' := [(2, 192)]) r_200_14 rfl rfl rfl ?_
    refine gx_ci (nx := 18) (S2 := []) (y_199 hT hp2 (M := M) (tr := tr) (by omega) r1 ((congrFun e193 5).trans h5) (by omega)) r_200_15 rfl rfl rfl rfl rfl (rcv_v rfl (ty_192 hT) (by decide) rfl (by decide)) rfl (by decide) rfl (fun x15 n15 q15 => ?_)
    have e_x15 := q15
    rw [e_x15]
    show GX T 8 200 18 [(2, 192), (0, a), (0, x2)] [(0, ((btF (fun t => mxF (fun a => ((ctB (fun j => decide (n2 208 (5 * j + t) = (a : Int))) M : Nat) : Int)) 10) (M : Int) tr).1))] n15 (RI (fun v m1 => (¬ (0 < m 193 9 ∧ 0 ≤ a ∧ a < 4) → v = -2) ∧ ∀ i : Nat, i < 4 → a = (i : Int) → 0 < m 193 9 → ∃ D : Nat → Nat → Int, WyD (pw (m 193)) D ∧ AskV (pw (m 193)) D (fun k => m 211 (60 * i + k)) n tr (pw (m 193) 0).toNat (m 209 i) v))
    show GX T 8 200 18 [(2, 192), (0, a), (0, x2)] [(0, ((btF (fun t => mxF (fun a => ((ctB (fun j => decide (n2 208 (5 * j + t) = (a : Int))) M : Nat) : Int)) 10) (M : Int) tr).1))] n15 (RI (fun v m1 => (¬ (0 < m 193 9 ∧ 0 ≤ a ∧ a < 4) → v = -2) ∧ ∀ i : Nat, i < 4 → a = (i : Int) → 0 < m 193 9 → ∃ D : Nat → Nat → Int, WyD (pw (m 193)) D ∧ AskV (pw (m 193)) D (fun k => m 211 (60 * i + k)) n tr (pw (m 193) 0).toNat (m 209 i) v))
    refine gx_rt r_200_18 rfl rfl ⟨_, rfl, fun z => absurd ⟨h40, by omega, by omega⟩ z, fun i2 hi2 h2 h3 => ?_⟩
    have ei : i2 = i := by omega
    rw [ei]
    refine ⟨D, hD, fun z => by omega, fun c hc => ⟨fun z => absurd ⟨by rw [show c = 2 * q by omega]; exact hs, by omega⟩ z, fun q2 hq2 _ => ?_⟩⟩
    have eq : q2 = q := by omega
    rw [eq]
    unfold askF
    rw [show prF (pw (m 193)) D (fun k => m 211 (60 * i + k)) q n (pw (m 193) 0).toNat = M from r2.symm]
    rw [btF_c tr (fun t ht => mxF_c 10 (fun a ha => congrArg (fun z : Nat => (z : Int)) (r3 t a (by omega) (by rw [pw_at (by decide) (by decide)]; omega) ha)))]
    rfl
  · refine gx_st (L' := [(2, 192), (0, a), (0, x2)]) (S' := [(0, x2)]) r_200_10 rfl rfl rfl ?_
    refine gx_st (L' := [(2, 192), (0, a), (0, x2)]) (S' := [(0, x2)]) r_200_11 rfl rfl rfl ?_
    obtain ⟨D0, hD0⟩ := ex_D hT hm hx
    exact gx_rt r_200_18 rfl rfl ⟨_, rfl, av.1, fun i hi h2 h3 => ⟨D0, wyD_pw.mpr hD0, (av.2 i hi h2 h3).1, fun c hc => ⟨((av.2 i hi h2 h3).2 c hc).1, fun q hq hs => by have := (((av.2 i hi h2 h3).2 c hc).2 q hq hs).1; omega⟩⟩⟩
end ASKQ
