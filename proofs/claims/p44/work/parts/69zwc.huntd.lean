/-! the search of the class -/
theorem r_248_0 : row 248 0 = some (.iload_n 2, 1, 0, 0, 0, 0) := rfl
theorem r_248_1 : row 248 1 = some (.aload_n 0, 2, 0, 0, 0, 0) := rfl
theorem r_248_2 : row 248 2 = some (.getfield 34, 5, 2, 6, 0, 2077) := rfl
theorem r_248_5 : row 248 5 = some (.if_icmp .gt 18, 8, 23, 0, 0, 0) := rfl
theorem r_248_8 : row 248 8 = some (.iload_n 2, 9, 0, 0, 0, 0) := rfl
theorem r_248_9 : row 248 9 = some (.ifCond .lt 14, 12, 23, 0, 0, 0) := rfl
theorem r_248_12 : row 248 12 = some (.iload_n 2, 13, 0, 0, 0, 0) := rfl
theorem r_248_13 : row 248 13 = some (.iconst 1, 14, 1, 0, 0, 0) := rfl
theorem r_248_14 : row 248 14 = some (.iadd, 15, 0, 0, 0, 0) := rfl
theorem r_248_15 : row 248 15 = some (.aload_n 0, 16, 0, 0, 0, 0) := rfl
theorem r_248_16 : row 248 16 = some (.getfield 11, 19, 2, 0, 2, 2068) := rfl
theorem r_248_19 : row 248 19 = some (.arraylength, 20, 0, 0, 0, 0) := rfl
theorem r_248_20 : row 248 20 = some (.if_icmp .lt 4, 23, 24, 0, 0, 0) := rfl
theorem r_248_23 : row 248 23 = some (.return_, 24, 0, 0, 0, 0) := rfl
theorem r_248_24 : row 248 24 = some (.aload_n 0, 25, 0, 0, 0, 0) := rfl
theorem r_248_25 : row 248 25 = some (.getfield 11, 28, 2, 0, 2, 2068) := rfl
theorem r_248_28 : row 248 28 = some (.iload_n 2, 29, 0, 0, 0, 0) := rfl
theorem r_248_29 : row 248 29 = some (.aaload, 30, 0, 0, 0, 0) := rfl
theorem r_248_30 : row 248 30 = some (.astore_n 3, 31, 0, 0, 0, 0) := rfl
theorem r_248_31 : row 248 31 = some (.aload_n 0, 32, 0, 0, 0, 0) := rfl
theorem r_248_32 : row 248 32 = some (.getfield 11, 35, 2, 0, 2, 2068) := rfl
theorem r_248_35 : row 248 35 = some (.iload_n 2, 36, 0, 0, 0, 0) := rfl
theorem r_248_36 : row 248 36 = some (.iconst 1, 37, 1, 0, 0, 0) := rfl
theorem r_248_37 : row 248 37 = some (.iadd, 38, 0, 0, 0, 0) := rfl
theorem r_248_38 : row 248 38 = some (.aaload, 39, 0, 0, 0, 0) := rfl
theorem r_248_39 : row 248 39 = some (.astore 4, 41, 0, 0, 0, 0) := rfl
theorem r_248_41 : row 248 41 = some (.aload_n 3, 42, 0, 0, 0, 0) := rfl
theorem r_248_42 : row 248 42 = some (.getfield 84, 45, 4, 1, 10, 1205) := rfl
theorem r_248_45 : row 248 45 = some (.iconst (-1), 46, (-1), 0, 0, 0) := rfl
theorem r_248_46 : row 248 46 = some (.if_icmp .eq 17, 49, 63, 0, 0, 0) := rfl
theorem r_248_49 : row 248 49 = some (.aload_n 0, 50, 0, 0, 0, 0) := rfl
theorem r_248_50 : row 248 50 = some (.aload_n 1, 51, 0, 0, 0, 0) := rfl
theorem r_248_51 : row 248 51 = some (.aload_n 3, 52, 0, 0, 0, 0) := rfl
theorem r_248_52 : row 248 52 = some (.iload_n 2, 53, 0, 0, 0, 0) := rfl
theorem r_248_53 : row 248 53 = some (.invokevirtual 87, 56, 250, 3, 0, 4220) := rfl
theorem r_248_56 : row 248 56 = some (.aload_n 0, 57, 0, 0, 0, 0) := rfl
theorem r_248_57 : row 248 57 = some (.getfield 34, 60, 2, 6, 0, 2077) := rfl
theorem r_248_60 : row 248 60 = some (.if_icmp .le 4, 63, 64, 0, 0, 0) := rfl
theorem r_248_63 : row 248 63 = some (.return_, 64, 0, 0, 0, 0) := rfl
theorem r_248_64 : row 248 64 = some (.iconst 0, 65, 0, 0, 0, 0) := rfl
theorem r_248_65 : row 248 65 = some (.istore 5, 67, 0, 0, 0, 0) := rfl
theorem r_248_67 : row 248 67 = some (.iload 5, 69, 0, 0, 0, 0) := rfl
theorem r_248_69 : row 248 69 = some (.bipush 10, 71, 10, 0, 0, 0) := rfl
theorem r_248_71 : row 248 71 = some (.aload_n 1, 72, 0, 0, 0, 0) := rfl
theorem r_248_72 : row 248 72 = some (.getfield 49, 75, 3, 1, 10, 1070) := rfl
theorem r_248_75 : row 248 75 = some (.iadd, 76, 0, 0, 0, 0) := rfl
theorem r_248_76 : row 248 76 = some (.if_icmp .ge 65, 79, 141, 0, 0, 0) := rfl
theorem r_248_79 : row 248 79 = some (.aload_n 3, 80, 0, 0, 0, 0) := rfl
theorem r_248_80 : row 248 80 = some (.aload_n 1, 81, 0, 0, 0, 0) := rfl
theorem r_248_81 : row 248 81 = some (.iload_n 2, 82, 0, 0, 0, 0) := rfl
theorem r_248_82 : row 248 82 = some (.iload 5, 84, 0, 0, 0, 0) := rfl
theorem r_248_84 : row 248 84 = some (.invokevirtual 91, 87, 269, 3, 10, 4226) := rfl
theorem r_248_87 : row 248 87 = some (.ifCond .eq 48, 90, 135, 0, 0, 0) := rfl
theorem r_248_90 : row 248 90 = some (.aload 4, 92, 0, 0, 0, 0) := rfl
theorem r_248_92 : row 248 92 = some (.aload_n 3, 93, 0, 0, 0, 0) := rfl
theorem r_248_93 : row 248 93 = some (.invokevirtual 95, 96, 267, 1, 10, 4227) := rfl
theorem r_248_96 : row 248 96 = some (.aload_n 0, 97, 0, 0, 0, 0) := rfl
theorem r_248_97 : row 248 97 = some (.getfield 17, 100, 2, 1, 2, 2069) := rfl
theorem r_248_100 : row 248 100 = some (.iload_n 2, 101, 0, 0, 0, 0) := rfl
theorem r_248_101 : row 248 101 = some (.iload 5, 103, 0, 0, 0, 0) := rfl
theorem r_248_103 : row 248 103 = some (.invokestatic 56, 106, 238, 3, 10, 4213) := rfl
theorem r_248_106 : row 248 106 = some (.aload 4, 108, 0, 0, 0, 0) := rfl
theorem r_248_108 : row 248 108 = some (.aload_n 1, 109, 0, 0, 0, 0) := rfl
theorem r_248_109 : row 248 109 = some (.iload_n 2, 110, 0, 0, 0, 0) := rfl
theorem r_248_110 : row 248 110 = some (.iload 5, 112, 0, 0, 0, 0) := rfl
theorem r_248_112 : row 248 112 = some (.invokevirtual 99, 115, 270, 3, 10, 4231) := rfl
theorem r_248_115 : row 248 115 = some (.iconst 5, 116, 5, 0, 0, 0) := rfl
theorem r_248_116 : row 248 116 = some (.if_icmp .ne 11, 119, 127, 0, 0, 0) := rfl
theorem r_248_119 : row 248 119 = some (.aload_n 0, 120, 0, 0, 0, 0) := rfl
theorem r_248_120 : row 248 120 = some (.iload_n 2, 121, 0, 0, 0, 0) := rfl
theorem r_248_121 : row 248 121 = some (.invokevirtual 103, 124, 249, 1, 0, 4232) := rfl
theorem r_248_124 : row 248 124 = some (.goto 11, 127, 135, 0, 0, 0) := rfl
theorem r_248_127 : row 248 127 = some (.aload_n 0, 128, 0, 0, 0, 0) := rfl
theorem r_248_128 : row 248 128 = some (.aload_n 1, 129, 0, 0, 0, 0) := rfl
theorem r_248_129 : row 248 129 = some (.iload_n 2, 130, 0, 0, 0, 0) := rfl
theorem r_248_130 : row 248 130 = some (.iconst 1, 131, 1, 0, 0, 0) := rfl
theorem r_248_131 : row 248 131 = some (.iadd, 132, 0, 0, 0, 0) := rfl
theorem r_248_132 : row 248 132 = some (.invokevirtual 70, 135, 248, 2, 0, 4216) := rfl
theorem r_248_135 : row 248 135 = some (.iinc 5 1, 138, 0, 0, 0, 0) := rfl
theorem r_248_138 : row 248 138 = some (.goto (-71), 141, 67, 0, 0, 0) := rfl
theorem r_248_141 : row 248 141 = some (.return_, 142, 0, 0, 0, 0) := rfl
theorem r_269_5 : row 269 5 = some (.ireturn, 6, 0, 0, 0, 0) := rfl
theorem go_lt5 {w s : Wd} {D : Nat → Nat → Int} {h : Int} : (goF w D h s).2 ≤ 4 := by
  unfold goF
  split
  · show (1 : Int) ≤ 4; decide
  · split
    · show (4 : Int) ≤ 4; decide
    · split
      · show (2 : Int) ≤ 4; decide
      · show (3 : Int) ≤ 4; decide
theorem hour_5 {w s : Wd} {D : Nat → Nat → Int} {h a : Nat} (hb : ¬ s 1 = -1) (ok : okH w D h a s = true) : (hourF w D (h : Int) (a : Int) s).2 = 5 ↔ a = 2 := by
  constructor
  · intro z
    apply Classical.byContradiction
    intro h2
    by_cases hc : canF w D (h : Int) (a : Int) s = true
    · by_cases h10 : 10 ≤ a
      · rw [hour_ca hb hc (by omega) (by omega)] at z
        exact absurd (show (3 : Int) = 5 from z) (by decide)
      · by_cases h1 : a = 1
        · rw [hour_of hb hc (by omega)] at z
          have := go_lt5 (w := w) (s := offF w (h : Int) s) (D := D) (h := (h : Int))
          omega
        · by_cases h0 : a = 0
          · exact absurd hc (can_a0 (by omega))
          · exact absurd hc (can_no (by omega) (by omega) (by omega))
    · rw [hour_go hb hc] at z
      have := go_lt5 (w := w) (s := s) (D := D) (h := (h : Int))
      omega
  · intro z
    rw [okH_c (by omega)] at ok
    rw [hour_th hb ok (by omega)]
/-- a row's act by its place, nothing behind its end -/
def at0 : List Int → Nat → Int
  | [], _ => 0
  | a :: _, 0 => a
  | _ :: l, i + 1 => at0 l i
theorem at0_lt {x : List Int} : ∀ {l : List Int} {i : Nat}, i < l.length → at0 (l ++ x) i = at0 l i := by
  intro l
  induction l with
  | nil => intro i hi; exact absurd hi (Nat.not_lt_zero _)
  | cons a l ih =>
    intro i hi
    cases i with
    | zero => rfl
    | succ i => exact ih (Nat.lt_of_succ_lt_succ hi)
theorem at0_ge {x : List Int} : ∀ {l : List Int} {i : Nat}, l.length ≤ i → at0 (l ++ x) i = at0 x (i - l.length) := by
  intro l
  induction l with
  | nil => intro i _; rfl
  | cons a l ih =>
    intro i hi
    cases i with
    | zero => exact absurd hi (Nat.not_succ_le_zero _)
    | succ i =>
      have z := ih (i := i) (Nat.le_of_succ_le_succ hi)
      show at0 (l ++ x) i = at0 x (i + 1 - (l.length + 1))
      rw [Nat.add_sub_add_right]
      exact z
theorem at0_no : ∀ {l : List Int} {i : Nat}, l.length ≤ i → at0 l i = 0 := by
  intro l
  induction l with
  | nil => intro i _; rfl
  | cons a l ih =>
    intro i hi
    cases i with
    | zero => exact absurd hi (Nat.not_succ_le_zero _)
    | succ i => exact ih (Nat.le_of_succ_le_succ hi)
/-- the first row's act by its place -/
def hd0 : List (List Int) → Nat → Int
  | [], _ => 0
  | r :: _, i => at0 r i
theorem hd0_app {l x : List (List Int)} (h : ¬ l = []) (i : Nat) : hd0 (l ++ x) i = hd0 l i := by
  cases l with
  | nil => exact absurd rfl h
  | cons a l => rfl
/-- the hunt tells the rows acc, of hours up to lim0: the soonest hour, how many, the first -/
def HuntS (m : Mm) (g : Nat) (lim0 : Int) (acc : Nat → List (List Int)) : Prop := (m g 4 = -1 ∧ m g 5 = 0 ∧ m g 6 = lim0 ∧ ∀ L : Nat, (L : Int) ≤ lim0 → acc L = []) ∨ ∃ L : Nat, m g 4 = (L : Int) ∧ m g 6 = (L : Int) ∧ (L : Int) ≤ lim0 ∧ ¬ acc L = [] ∧ (∀ K : Nat, K < L → acc K = []) ∧ m g 5 = w32 ((acc L).length : Int) ∧ ∀ i : Nat, i < 12 → m (g + 3) i = hd0 (acc L) i
theorem hunts_ext {m : Mm} {g : Nat} {lim0 : Int} {a b : Nat → List (List Int)} (h : HuntS m g lim0 a) (e : ∀ L : Nat, (L : Int) ≤ m g 6 → b L = a L) : HuntS m g lim0 b := by
  rcases h with ⟨h4, h5, h6, h7⟩ | ⟨L, h4, h6, h7, h8, h9, h5, h3⟩
  · exact Or.inl ⟨h4, h5, h6, fun L hL => (e L (by omega)).trans (h7 L hL)⟩
  · refine Or.inr ⟨L, h4, h6, h7, ?_, fun K hK => (e K (by omega)).trans (h9 K hK), ?_, fun i hi => ?_⟩
    · rw [e L (by omega)]; exact h8
    · rw [e L (by omega)]; exact h5
    · rw [e L (by omega)]; exact h3 i hi
theorem hunts_m {m m1 : Mm} {g : Nat} {lim0 : Int} {a : Nat → List (List Int)} (h : HuntS m g lim0 a) (e4 : m1 g 4 = m g 4) (e5 : m1 g 5 = m g 5) (e6 : m1 g 6 = m g 6) (e3 : ∀ i : Nat, i < 12 → m1 (g + 3) i = m (g + 3) i) : HuntS m1 g lim0 a := by
  rcases h with ⟨h4, h5, h6, h7⟩ | ⟨L, h4, h6, h7, h8, h9, h5, h3⟩
  · exact Or.inl ⟨e4.trans h4, e5.trans h5, e6.trans h6, h7⟩
  · exact Or.inr ⟨L, e4.trans h4, e6.trans h6, h7, h8, h9, e5.trans h5, fun i hi => (e3 i hi).trans (h3 i hi)⟩
theorem w32_s (x : Int) : w32 (w32 x + 1) = w32 (x + 1) := by
  unfold w32
  first
    | exact Int.bmod_add_bmod_congr ..
    | exact Int.bmod_add_bmod ..
    | simp
/-- a row more -/
theorem hunts_fd {m m1 : Mm} {g h : Nat} {lim0 : Int} {a : Nat → List (List Int)} {r : List Int} (hs : HuntS m g lim0 a) (hl : (h : Int) ≤ m g 6) (h12 : h < 12) (hr : r.length = h + 1) (e : ∀ i : Nat, i ≤ h → at0 r i = m (g + 2) i) (y : (m g 4 = -1 ∨ (h : Int) < m g 4) → m1 g 4 = (h : Int) ∧ m1 g 6 = (h : Int) ∧ m1 g 5 = 1 ∧ ∀ i : Nat, i < 12 → m1 (g + 3) i = if i ≤ h then m (g + 2) i else 0) (n : ¬ (m g 4 = -1 ∨ (h : Int) < m g 4) → m1 g 4 = m g 4 ∧ m1 g 6 = m g 6 ∧ m1 g 5 = w32 (m g 5 + 1) ∧ ∀ i : Nat, i < 12 → m1 (g + 3) i = m (g + 3) i) : HuntS m1 g lim0 (fun L => a L ++ (if h = L then [r] else [])) ∧ (h : Int) ≤ m1 g 6 := by
  by_cases c : m g 4 = -1 ∨ (h : Int) < m g 4
  · obtain ⟨u4, u6, u5, u3⟩ := y c
    have q : (h : Int) ≤ lim0 ∧ ∀ K : Nat, K ≤ h → a K = [] := by
      rcases hs with ⟨h4, h5, h6, h7⟩ | ⟨L, h4, h6, h7, h8, h9, h5, h3⟩
      · exact ⟨by omega, fun K hK => h7 K (by omega)⟩
      · rcases c with c | c
        · omega
        · exact ⟨by omega, fun K hK => h9 K (by omega)⟩
    have eh : a h ++ (if h = h then [r] else []) = [r] := by rw [if_pos rfl, q.2 h (Nat.le_refl h)]; rfl
    refine ⟨Or.inr ⟨h, u4, u6, q.1, ?_, fun K hK => ?_, ?_, fun i hi => ?_⟩, by omega⟩
    · show ¬ a h ++ (if h = h then [r] else []) = []
      rw [eh]; exact fun z => by cases z
    · show a K ++ (if h = K then [r] else []) = []
      rw [q.2 K (by omega), if_neg (by omega)]; rfl
    · show m1 g 5 = w32 ((a h ++ (if h = h then [r] else [])).length : Int)
      rw [eh, u5]; show (1 : Int) = w32 ((1 : Nat) : Int); decide
    · show m1 (g + 3) i = hd0 (a h ++ (if h = h then [r] else [])) i
      rw [eh, u3 i hi]
      show _ = at0 r i
      by_cases d : i ≤ h
      · rw [if_pos d, e i d]
      · rw [if_neg d, at0_no (by omega)]
  · obtain ⟨u4, u6, u5, u3⟩ := n c
    rcases hs with ⟨h4, h5, h6, h7⟩ | ⟨L, h4, h6, h7, h8, h9, h5, h3⟩
    · exact absurd (Or.inl h4) c
    · have eL : h = L := by
        have : ¬ (h : Int) < m g 4 := fun z => c (Or.inr z)
        omega
      subst eL
      refine ⟨Or.inr ⟨h, u4.trans h4, u6.trans h6, h7, ?_, fun K hK => ?_, ?_, fun i hi => ?_⟩, by omega⟩
      · show ¬ a h ++ (if h = h then [r] else []) = []
        exact fun z => h8 (List.append_eq_nil_iff.mp z).1
      · show a K ++ (if h = K then [r] else []) = []
        rw [h9 K hK, if_neg (by omega)]; rfl
      · show m1 g 5 = w32 ((a h ++ (if h = h then [r] else [])).length : Int)
        rw [u5, h5, w32_s, if_pos rfl, List.length_append]
        rfl
      · show m1 (g + 3) i = hd0 (a h ++ (if h = h then [r] else [])) i
        rw [hd0_app h8, u3 i hi]; exact h3 i hi
/-- of the hunt's cells a search from hour h on writes but these -/
def FrH (g h : Nat) (m m1 : Mm) : Prop := ∀ p i : Nat, ¬ (p = g ∧ 4 ≤ i ∧ i ≤ 6) → ¬ (p = g + 2 ∧ h ≤ i) → ¬ p = g + 3 → ¬ (g + 8 + 3 * h ≤ p ∧ p < g + 44) → m1 p i = m p i
theorem frh_tr {g h k : Nat} {a b c : Mm} (h1 : FrH g h a b) (h2 : FrH g k b c) (hk : h ≤ k) : FrH g h a c := fun p i x y z u => (h2 p i x (fun q => y ⟨q.1, by omega⟩) z (fun q => u ⟨by omega, q.2⟩)).trans (h1 p i x y z u)
theorem frh_o {g h q : Nat} {a b : Mm} (f : FrO 8 q a b) (hq : q = g + 8 + 3 * h) (h12 : h < 12) : FrH g h a b := fun p i x y z u => f p i (fun e => u (by omega)) (fun e => u (by omega)) (fun e => u (by omega))
/-- what a search keeps -/
def LoopI (w : Wd) (D : Nat → Nat → Int) (o g h r : Nat) (s : Wd) (pre : List Int) (m : Mm) : Prop := HuntR m g ∧ IsleR m o ∧ WD m o w ∧ (∀ p : Nat, (p : Int) < w 0 → m (g + 4) p = bwF w D p) ∧ RdS w m r s ∧ (m r 7 = 0 ∨ m r 7 = 1) ∧ ∀ i : Nat, i < h → m (g + 2) i = at0 pre i
theorem loopi_fr {w : Wd} {D : Nat → Nat → Int} {o g h r : Nat} {s : Wd} {pre : List Int} {a b : Mm} (l : LoopI w D o g h r s pre a) (f : FrH g h a b) (hr : HuntR b g) (hd : g + 44 ≤ o ∨ o + 9 ≤ g) (er : r = g + 5 + 3 * h) (h12 : h < 12) : LoopI w D o g h r s pre b := by
  obtain ⟨_, l2, l3, l4, l5, l7, l6⟩ := l
  have e : ∀ p i : Nat, (o ≤ p ∧ p ≤ o + 8) ∨ p = g + 4 ∨ (r ≤ p ∧ p ≤ r + 2) → b p i = a p i := fun p i z => f p i (by omega) (by omega) (by omega) (by omega)
  refine ⟨hr, ?_, WD_eq l3 (fun p i p1 p2 _ => e p i (by omega)), fun p hp => (e _ p (by omega)).trans (l4 p hp), ?_, by rw [e r 7 (by omega)]; exact l7, fun i hi => (f (g + 2) i (by omega) (by omega) (by omega) (by omega)).trans (l6 i hi)⟩
  · unfold IsleR at l2 ⊢
    rw [e o 10 (by omega), e o 11 (by omega), e o 12 (by omega), e o 13 (by omega), e o 14 (by omega), e o 15 (by omega), e o 16 (by omega), e o 17 (by omega)]
    exact l2
  · obtain ⟨a0, a1, a2, a3, a4, a5, a6, a7, a8⟩ := l5
    exact ⟨(e r 0 (by omega)).trans a0, (e r 1 (by omega)).trans a1, (e r 2 (by omega)).trans a2, (e r 3 (by omega)).trans a3, (e r 4 (by omega)).trans a4, (e r 5 (by omega)).trans a5, (e r 6 (by omega)).trans a6, fun k hk => (e (r + 1) k (by omega)).trans (a7 k hk), fun k hk h5 => (e (r + 2) k (by omega)).trans (a8 k hk h5)⟩
theorem huntr_o {g h q : Nat} {a b : Mm} (hr : HuntR a g) (f : FrO 8 q a b) (hq : q = g + 8 + 3 * h) : HuntR b g := by
  obtain ⟨h0, h1, h2, h3, h4⟩ := hr
  have e : ∀ p i : Nat, p < g + 5 → b p i = a p i := fun p i z => f p i (by omega) (by omega) (by omega)
  refine ⟨(e g 0 (by omega)).trans h0, (e g 1 (by omega)).trans h1, (e g 2 (by omega)).trans h2, (e g 3 (by omega)).trans h3, fun i hi => ⟨(e (g + 1) i (by omega)).trans (h4 i hi).1, ?_⟩⟩
  obtain ⟨a2, a3⟩ := (h4 i hi).2
  exact ⟨(f (g + 5 + 3 * i) 8 (by omega) (by omega) (by omega)).trans a2, (f (g + 5 + 3 * i) 9 (by omega) (by omega) (by omega)).trans a3⟩
section HUNTD
variable {T : List Kd} {m : Mm}
theorem a_269 (hT : TT T) {r o : Nat} (hr : RideT T r) {h a : Int} (ha : a = 0) : GX T 2 269 0 [(2, (r : Int)), (2, (o : Int)), (0, h), (0, a), (9, 0)] [] m (RI (fun v m1 => v = 1 ∧ m1 = m)) := by
  have hr0 := hr.1
  refine gx_st (L' := [(2, (r : Int)), (2, (o : Int)), (0, h), (0, a), (9, 0)]) (S' := [(0, a)]) r_269_0 rfl rfl rfl ?_
  refine gx_i0 (P := ¬ a = 0) r_269_1 (rfl) (fun h1 => ?_) (fun h1 => ?_)
  · exact absurd ha (by omega)
  · have h1 := Decidable.not_not.mp h1
    refine gx_st (L' := [(2, (r : Int)), (2, (o : Int)), (0, h), (0, a), (9, 0)]) (S' := [(0, 1)]) r_269_4 rfl rfl rfl ?_
    exact gx_rb r_269_5 rfl (Or.inr rfl) ⟨_, rfl, rfl, rfl⟩
theorem x_269 (hT : TT T) {o : Nat} (ho : IsleT T o) (hor : IsleR m o) {w : Wd} (hw : WD m o w) {r : Nat} (hr : RideT T r) (hrr : RideR m r) {s : Wd} (hs : RdS w m r s) (hd : r + 3 ≤ o ∨ o + 9 ≤ r) {D : Nat → Nat → Int} (hD : WyD w D) {p : Nat} (hb1 : ¬ s 1 = -1) (hp : s 0 = (p : Int)) (hpn : (p : Int) < w 0) (h a : Nat) (ha : a ≤ 16) : GX T 2 269 0 [(2, (r : Int)), (2, (o : Int)), (0, (h : Int)), (0, (a : Int)), (9, 0)] [] m (RI (fun v m1 => v = (if okH w D h a s = true then 1 else 0) ∧ m1 = m)) := by
  by_cases c : a = 0
  · subst c
    refine gx_imp (a_269 hT hr (o := o) (h := (h : Int)) (a := ((0 : Nat) : Int)) rfl) (fun v m1 ⟨x, e, f, g⟩ => ⟨x, e, f.trans (if_pos okH_0).symm, g⟩)
  · rw [okH_c c]
    exact z_269 hT ho hor hw hr hrr hs hd hD hb1 hp hpn h (a := (a : Int)) (by omega) (by omega)
theorem sk_l (hT : TT T) {o : Nat} (ho : IsleT T o) {w : Wd} (hP : WP w) (hR : WR w) {D : Nat → Nat → Int} (hD : WyD w D) {np : Nat} (hnp : w 0 = (np : Int)) {g : Nat} (hgt : HuntT T g) (hdo : g + 44 ≤ o ∨ o + 9 ≤ g) {lim0 : Int} (hl : lim0 < 12) {f h r q : Nat} {s : Wd} {pre : List Int} {acc : Nat → List (List Int)} (hf : h + (f + 1) = 13) (h12 : h < 12) (hr : r = g + 5 + 3 * h) (hq : q = g + 8 + 3 * h) (hpre : pre.length = h) (hb1 : ¬ s 1 = -1) (hS : SB w s h) (hV : V8s s ∧ 0 ≤ s 3 ∧ s 3 ≤ 14) (ih0 : (∀ (h : Nat) (m : Mm) (r : Nat) (s : Wd) (pre : List Int) (acc : Nat → List (List Int)), h + f = 13 → r = g + 5 + 3 * h → pre.length = h → LoopI w D o g h r s pre m → SB w s h → (¬ s 1 = -1 → V8s s ∧ 0 ≤ s 3 ∧ s 3 ≤ 14) → HuntS m g lim0 acc → GX T (4 + f) 248 0 [(2, (g : Int)), (2, (o : Int)), (0, (h : Int)), (9, 0), (9, 0), (9, 0)] [] m (RV (fun m1 => HuntS m1 g lim0 (fun L => acc L ++ (rowsH w D np L f h s).map (fun z => pre ++ z)) ∧ HuntR m1 g ∧ FrH g h m m1 ∧ ∀ x : Int, x ≤ (h : Int) → x ≤ m g 6 → x ≤ m1 g 6)))) : ∀ (N k : Nat) (m : Mm), 10 + np - k < N → k ≤ 10 + np → LoopI w D o g h r s pre m → HuntS m g lim0 (fun L => acc L ++ (catL (altH w D L h s (fun q => rowsH w D np L f (h + 1) q)) k).map (fun z => pre ++ z)) → (h : Int) ≤ m g 6 → GX T (4 + (f + 1)) 248 67 [(2, (g : Int)), (2, (o : Int)), (0, (h : Int)), (2, (r : Int)), (2, (q : Int)), (0, (k : Int))] [] m (RV (fun m1 => HuntS m1 g lim0 (fun L => acc L ++ (catL (altH w D L h s (fun q => rowsH w D np L f (h + 1) q)) (10 + np)).map (fun z => pre ++ z)) ∧ HuntR m1 g ∧ FrH g h m m1 ∧ ∀ x : Int, x ≤ (h : Int) → x ≤ m g 6 → x ≤ m1 g 6)) := by
  have hg0 := hgt.1
  have ho0 := ho.1
  have tr := hgt.2.2.2.2.2.2 h (by omega)
  have tq := hgt.2.2.2.2.2.2 (h + 1) (by omega)
  rw [← hr] at tr
  rw [show g + 5 + 3 * (h + 1) = q by omega] at tq
  intro N
  induction N with
  | zero => intro k m hN; exact absurd hN (Nat.not_lt_zero _)
  | succ N ih =>
    intro k m hN hk hI hs hl6
    have hI2 := hI
    obtain ⟨hg, hor, hw, hbw, hrs, h7r, htr⟩ := hI
    have b0 := hw.2.1.1
    have hrr := (hg.2.2.2.2 h (by omega)).2
    rw [← hr] at hrr
    have hqr := (hg.2.2.2.2 (h + 1) (by omega)).2
    rw [show g + 5 + 3 * (h + 1) = q by omega] at hqr
    obtain ⟨b, p, hb, hb7, hp, hpn⟩ := hS.1.resolve_left hb1
    refine gx_st (L' := [(2, (g : Int)), (2, (o : Int)), (0, (h : Int)), (2, (r : Int)), (2, (q : Int)), (0, (k : Int))]) (S' := [(0, (k : Int))]) r_248_67 rfl rfl rfl ?_
    refine gx_st (L' := [(2, (g : Int)), (2, (o : Int)), (0, (h : Int)), (2, (r : Int)), (2, (q : Int)), (0, (k : Int))]) (S' := [(0, 10), (0, (k : Int))]) r_248_69 rfl rfl rfl ?_
    refine gx_st (L' := [(2, (g : Int)), (2, (o : Int)), (0, (h : Int)), (2, (r : Int)), (2, (q : Int)), (0, (k : Int))]) (S' := [(2, (o : Int)), (0, 10), (0, (k : Int))]) r_248_71 rfl rfl rfl ?_
    refine gx_gf (x := (np : Int)) 0 r_248_72 (rfl) (tisle_0 ho) ⟨by omega, rfl, by decide, by decide⟩ rfl (fun z => absurd z (by decide)) ((wd_pl hw).trans hnp) ?_
    refine gx_ar (L' := [(2, (g : Int)), (2, (o : Int)), (0, (h : Int)), (2, (r : Int)), (2, (q : Int)), (0, (k : Int))]) (S' := [(0, (k : Int))]) (t := 0) (e := w32 (10 + (np : Int))) (z := (np : Int) + 10) r_248_75 rfl rfl rfl (w32_eq (by omega) (by omega) (by omega)) ?_
    refine gx_ic (P := (np : Int) + 10 ≤ (k : Int)) r_248_76 (rfl) (fun h76 => ?_) (fun h76 => ?_)
    · have hkn : k = 10 + np := by omega
      subst hkn
      exact gx_rt r_248_141 rfl rfl ⟨rfl, hs, hg, fun _ _ _ _ _ _ => rfl, fun _ _ z => z⟩
    · refine gx_st (L' := [(2, (g : Int)), (2, (o : Int)), (0, (h : Int)), (2, (r : Int)), (2, (q : Int)), (0, (k : Int))]) (S' := [(2, (r : Int))]) r_248_79 rfl rfl rfl ?_
      refine gx_st (L' := [(2, (g : Int)), (2, (o : Int)), (0, (h : Int)), (2, (r : Int)), (2, (q : Int)), (0, (k : Int))]) (S' := [(2, (o : Int)), (2, (r : Int))]) r_248_80 rfl rfl rfl ?_
      refine gx_st (L' := [(2, (g : Int)), (2, (o : Int)), (0, (h : Int)), (2, (r : Int)), (2, (q : Int)), (0, (k : Int))]) (S' := [(0, (h : Int)), (2, (o : Int)), (2, (r : Int))]) r_248_81 rfl rfl rfl ?_
      refine gx_st (L' := [(2, (g : Int)), (2, (o : Int)), (0, (h : Int)), (2, (r : Int)), (2, (q : Int)), (0, (k : Int))]) (S' := [(0, (k : Int)), (0, (h : Int)), (2, (o : Int)), (2, (r : Int))]) r_248_82 rfl rfl rfl ?_
      refine gx_ci (nx := 87) (S2 := []) (x_269 hT ho hor hw tr hrr hrs (by omega) hD hb1 hp hpn h k (by omega)) r_248_84 rfl rfl rfl rfl rfl (rcv_v rfl (tride_0 tr) (by omega) rfl (by decide)) rfl (by omega) rfl (fun x84 n84 q84 => ?_)
      obtain ⟨e_x84, z_x84⟩ := q84
      obtain rfl := z_x84.symm
      rw [e_x84]
      show GX T (4 + (f + 1)) 248 87 [(2, (g : Int)), (2, (o : Int)), (0, (h : Int)), (2, (r : Int)), (2, (q : Int)), (0, (k : Int))] [(0, (if okH w D h k s = true then 1 else 0))] m (RV (fun m1 => HuntS m1 g lim0 (fun L => acc L ++ (catL (altH w D L h s (fun q => rowsH w D np L f (h + 1) q)) (10 + np)).map (fun z => pre ++ z)) ∧ HuntR m1 g ∧ FrH g h m m1 ∧ ∀ x : Int, x ≤ (h : Int) → x ≤ m g 6 → x ≤ m1 g 6))
      refine gx_i0 (P := ¬ (okH w D h k s = true)) r_248_87 (b01_eq) (fun h87 => ?_) (fun h87 => ?_)
      · refine gx_li (z := (k : Int) + 1) (L' := [(2, (g : Int)), (2, (o : Int)), (0, (h : Int)), (2, (r : Int)), (2, (q : Int)), (0, (k : Int) + 1)]) r_248_135 rfl (w32_eq (by omega) (by omega) (by omega)) rfl ?_
        refine gx_st (L' := [(2, (g : Int)), (2, (o : Int)), (0, (h : Int)), (2, (r : Int)), (2, (q : Int)), (0, (k : Int) + 1)]) (S' := []) r_248_138 rfl rfl rfl ?_
        rw [show (k : Int) + 1 = ((k + 1 : Nat) : Int) from rfl]
        refine ih (k + 1) m (by omega) (by omega) hI2 (hunts_ext hs (fun L _ => ?_)) hl6
        show acc L ++ (catL (altH w D L h s (fun q => rowsH w D np L f (h + 1) q)) k ++ (altH w D L h s (fun q => rowsH w D np L f (h + 1) q)) k).map (fun z => pre ++ z) = _
        rw [altH_no h87, List.append_nil]
      · have h87 := Decidable.not_not.mp h87
        refine gx_st (L' := [(2, (g : Int)), (2, (o : Int)), (0, (h : Int)), (2, (r : Int)), (2, (q : Int)), (0, (k : Int))]) (S' := [(2, (q : Int))]) r_248_90 rfl rfl rfl ?_
        refine gx_st (L' := [(2, (g : Int)), (2, (o : Int)), (0, (h : Int)), (2, (r : Int)), (2, (q : Int)), (0, (k : Int))]) (S' := [(2, (r : Int)), (2, (q : Int))]) r_248_92 rfl rfl rfl ?_
        refine gx_cv (nx := 96) (S2 := []) (z_267 hT tr hrr tq hqr hrs h7r (by omega)) r_248_93 rfl rfl rfl rfl rfl (rcv_v rfl (tride_0 tq) (by omega) rfl (by decide)) rfl (by omega) rfl (fun n93 q93 => ?_)
        obtain ⟨rq_n93, fq_n93⟩ := q93
        have fh_n93 : FrH g h m n93 := frh_o fq_n93 hq h12
        have hr_n93 : HuntR n93 g := huntr_o hg fq_n93 hq
        show GX T (4 + (f + 1)) 248 96 [(2, (g : Int)), (2, (o : Int)), (0, (h : Int)), (2, (r : Int)), (2, (q : Int)), (0, (k : Int))] [] n93 (RV (fun m1 => HuntS m1 g lim0 (fun L => acc L ++ (catL (altH w D L h s (fun q => rowsH w D np L f (h + 1) q)) (10 + np)).map (fun z => pre ++ z)) ∧ HuntR m1 g ∧ FrH g h m m1 ∧ ∀ x : Int, x ≤ (h : Int) → x ≤ m g 6 → x ≤ m1 g 6))
        refine gx_st (L' := [(2, (g : Int)), (2, (o : Int)), (0, (h : Int)), (2, (r : Int)), (2, (q : Int)), (0, (k : Int))]) (S' := [(2, (g : Int))]) r_248_96 rfl rfl rfl ?_
        refine gx_gf (x := (g : Int) + 2) 2 r_248_97 (rfl) (thunt_0 hgt) ⟨by omega, rfl, by decide, by decide⟩ rfl (fun _ => by omega) (hr_n93.2.1) ?_
        refine gx_st (L' := [(2, (g : Int)), (2, (o : Int)), (0, (h : Int)), (2, (r : Int)), (2, (q : Int)), (0, (k : Int))]) (S' := [(0, (h : Int)), (2, (g : Int) + 2)]) r_248_100 rfl rfl rfl ?_
        refine gx_st (L' := [(2, (g : Int)), (2, (o : Int)), (0, (h : Int)), (2, (r : Int)), (2, (q : Int)), (0, (k : Int))]) (S' := [(0, (k : Int)), (0, (h : Int)), (2, (g : Int) + 2)]) r_248_101 rfl rfl rfl ?_
        refine gx_cv (nx := 106) (S2 := []) (c_238 (r := g + 2) (n := 12) (thunt_2 hgt) (by omega) (by decide) (k := h) (by omega) (k : Int)) r_248_103 rfl rfl rfl rfl rfl rfl rfl (by omega) rfl (fun n103 q103 => ?_)
        have e_n103 : n103 = nu_up n93 (g + 2) h (k : Int) := q103
        show GX T (4 + (f + 1)) 248 106 [(2, (g : Int)), (2, (o : Int)), (0, (h : Int)), (2, (r : Int)), (2, (q : Int)), (0, (k : Int))] [] n103 (RV (fun m1 => HuntS m1 g lim0 (fun L => acc L ++ (catL (altH w D L h s (fun q => rowsH w D np L f (h + 1) q)) (10 + np)).map (fun z => pre ++ z)) ∧ HuntR m1 g ∧ FrH g h m m1 ∧ ∀ x : Int, x ≤ (h : Int) → x ≤ m g 6 → x ≤ m1 g 6))
        have fh_n103 : FrH g h m n103 := frh_tr fh_n93 (fun p i x y z u => by rw [e_n103]; exact nu_fz (fun c => y ⟨c.1, by omega⟩)) (Nat.le_refl h)
        have hr_n103 : HuntR n103 g := huntr_eq hr_n93 (fun p i z => by rw [e_n103]; exact nu_no (by rcases z with z | z | z <;> omega))
        have rq_n103 : RdS w n103 q s := by
          have e : ∀ p i : Nat, q ≤ p → n103 p i = n93 p i := fun p i z => by rw [e_n103]; exact nu_no (by omega)
          obtain ⟨a0, a1, a2, a3, a4, a5, a6, a7, a8⟩ := rq_n93
          exact ⟨(e q 0 (by omega)).trans a0, (e q 1 (by omega)).trans a1, (e q 2 (by omega)).trans a2, (e q 3 (by omega)).trans a3, (e q 4 (by omega)).trans a4, (e q 5 (by omega)).trans a5, (e q 6 (by omega)).trans a6, fun k hk => (e (q + 1) k (by omega)).trans (a7 k hk), fun k hk h5 => (e (q + 2) k (by omega)).trans (a8 k hk h5)⟩
        have hi_n103 : LoopI w D o g h r s pre n103 := loopi_fr hI2 fh_n103 hr_n103 hdo hr h12
        have hk_n103 : n103 (g + 2) h = (k : Int) := by rw [e_n103, nu_at]
        have hqq_n103 := (hr_n103.2.2.2.2 (h + 1) (by omega)).2
        rw [show g + 5 + 3 * (h + 1) = q by omega] at hqq_n103
        show GX T (4 + (f + 1)) 248 106 [(2, (g : Int)), (2, (o : Int)), (0, (h : Int)), (2, (r : Int)), (2, (q : Int)), (0, (k : Int))] [] n103 (RV (fun m1 => HuntS m1 g lim0 (fun L => acc L ++ (catL (altH w D L h s (fun q => rowsH w D np L f (h + 1) q)) (10 + np)).map (fun z => pre ++ z)) ∧ HuntR m1 g ∧ FrH g h m m1 ∧ ∀ x : Int, x ≤ (h : Int) → x ≤ m g 6 → x ≤ m1 g 6))
        refine gx_st (L' := [(2, (g : Int)), (2, (o : Int)), (0, (h : Int)), (2, (r : Int)), (2, (q : Int)), (0, (k : Int))]) (S' := [(2, (q : Int))]) r_248_106 rfl rfl rfl ?_
        refine gx_st (L' := [(2, (g : Int)), (2, (o : Int)), (0, (h : Int)), (2, (r : Int)), (2, (q : Int)), (0, (k : Int))]) (S' := [(2, (o : Int)), (2, (q : Int))]) r_248_108 rfl rfl rfl ?_
        refine gx_st (L' := [(2, (g : Int)), (2, (o : Int)), (0, (h : Int)), (2, (r : Int)), (2, (q : Int)), (0, (k : Int))]) (S' := [(0, (h : Int)), (2, (o : Int)), (2, (q : Int))]) r_248_109 rfl rfl rfl ?_
        refine gx_st (L' := [(2, (g : Int)), (2, (o : Int)), (0, (h : Int)), (2, (r : Int)), (2, (q : Int)), (0, (k : Int))]) (S' := [(0, (k : Int)), (0, (h : Int)), (2, (o : Int)), (2, (q : Int))]) r_248_110 rfl rfl rfl ?_
        refine gx_ci (nx := 115) (S2 := []) (pass_x hT ho hi_n103.2.1 hi_n103.2.2.1 tq hqq_n103 rq_n103 (by omega) hD (h := h) (by omega) hS (a := (k : Int)) (by omega)) r_248_112 rfl rfl rfl rfl rfl (rcv_v rfl (tride_0 tq) (by omega) rfl (by decide)) rfl (by omega) rfl (fun x112 n112 q112 => ?_)
        obtain ⟨ev, rs_n112, fo_n112, w7_n112⟩ := q112
        have fh_n112 : FrH g h m n112 := frh_tr fh_n103 (frh_o fo_n112 hq h12) (Nat.le_refl h)
        have hr_n112 : HuntR n112 g := huntr_o hr_n103 fo_n112 hq
        have hi_n112 : LoopI w D o g h r s pre n112 := loopi_fr hI2 fh_n112 hr_n112 hdo hr h12
        have hk_n112 : n112 (g + 2) h = (k : Int) := (fo_n112 (g + 2) h (by omega) (by omega) (by omega)).trans hk_n103
        have e6_n112 : n112 g 6 = m g 6 := by
          rw [fo_n112 g 6 (by omega) (by omega) (by omega), e_n103, nu_no (by omega), fq_n93 g 6 (by omega) (by omega) (by omega)]
        have hs_n112 : HuntS n112 g lim0 (fun L => acc L ++ (catL (altH w D L h s (fun q => rowsH w D np L f (h + 1) q)) k).map (fun z => pre ++ z)) := hunts_m hs (by rw [fo_n112 g 4 (by omega) (by omega) (by omega), e_n103, nu_no (by omega), fq_n93 g 4 (by omega) (by omega) (by omega)]) (by rw [fo_n112 g 5 (by omega) (by omega) (by omega), e_n103, nu_no (by omega), fq_n93 g 5 (by omega) (by omega) (by omega)]) e6_n112 (fun i hi => by rw [fo_n112 (g + 3) i (by omega) (by omega) (by omega), e_n103, nu_no (by omega), fq_n93 (g + 3) i (by omega) (by omega) (by omega)])
        show GX T (4 + (f + 1)) 248 115 [(2, (g : Int)), (2, (o : Int)), (0, (h : Int)), (2, (r : Int)), (2, (q : Int)), (0, (k : Int))] [(0, x112)] n112 (RV (fun m1 => HuntS m1 g lim0 (fun L => acc L ++ (catL (altH w D L h s (fun q => rowsH w D np L f (h + 1) q)) (10 + np)).map (fun z => pre ++ z)) ∧ HuntR m1 g ∧ FrH g h m m1 ∧ ∀ x : Int, x ≤ (h : Int) → x ≤ m g 6 → x ≤ m1 g 6))
        show GX T (4 + (f + 1)) 248 115 [(2, (g : Int)), (2, (o : Int)), (0, (h : Int)), (2, (r : Int)), (2, (q : Int)), (0, (k : Int))] [(0, x112)] n112 (RV (fun m1 => HuntS m1 g lim0 (fun L => acc L ++ (catL (altH w D L h s (fun q => rowsH w D np L f (h + 1) q)) (10 + np)).map (fun z => pre ++ z)) ∧ HuntR m1 g ∧ FrH g h m m1 ∧ ∀ x : Int, x ≤ (h : Int) → x ≤ m g 6 → x ≤ m1 g 6))
        refine gx_st (L' := [(2, (g : Int)), (2, (o : Int)), (0, (h : Int)), (2, (r : Int)), (2, (q : Int)), (0, (k : Int))]) (S' := [(0, 5), (0, x112)]) r_248_115 rfl rfl rfl ?_
        refine gx_ic (P := ¬ x112 = 5) r_248_116 (rfl) (fun h116 => ?_) (fun h116 => ?_)
        · refine gx_st (L' := [(2, (g : Int)), (2, (o : Int)), (0, (h : Int)), (2, (r : Int)), (2, (q : Int)), (0, (k : Int))]) (S' := [(2, (g : Int))]) r_248_127 rfl rfl rfl ?_
          refine gx_st (L' := [(2, (g : Int)), (2, (o : Int)), (0, (h : Int)), (2, (r : Int)), (2, (q : Int)), (0, (k : Int))]) (S' := [(2, (o : Int)), (2, (g : Int))]) r_248_128 rfl rfl rfl ?_
          refine gx_st (L' := [(2, (g : Int)), (2, (o : Int)), (0, (h : Int)), (2, (r : Int)), (2, (q : Int)), (0, (k : Int))]) (S' := [(0, (h : Int)), (2, (o : Int)), (2, (g : Int))]) r_248_129 rfl rfl rfl ?_
          refine gx_st (L' := [(2, (g : Int)), (2, (o : Int)), (0, (h : Int)), (2, (r : Int)), (2, (q : Int)), (0, (k : Int))]) (S' := [(0, 1), (0, (h : Int)), (2, (o : Int)), (2, (g : Int))]) r_248_130 rfl rfl rfl ?_
          refine gx_ar (L' := [(2, (g : Int)), (2, (o : Int)), (0, (h : Int)), (2, (r : Int)), (2, (q : Int)), (0, (k : Int))]) (S' := [(2, (o : Int)), (2, (g : Int))]) (t := 0) (e := w32 ((h : Int) + 1)) (z := (h : Int) + 1) r_248_131 rfl rfl rfl (w32_eq (by omega) (by omega) (by omega)) ?_
          have k2 : ¬ k = 2 := fun z => (by assumption : ¬ x112 = 5) (ev.trans ((hour_5 hb1 h87).mpr z))
          have tr_n112 : ∀ i : Nat, i < h + 1 → n112 (g + 2) i = at0 (pre ++ [(k : Int)]) i := fun i hi => by
            by_cases c : i < h
            · rw [at0_lt (by omega)]; exact hi_n112.2.2.2.2.2.2 i c
            · rw [at0_ge (by omega), show i - pre.length = 0 by omega, show i = h by omega]; exact hk_n112
          have sb := sb_hour hw.2.1 hP hD (k := h) (a := (k : Int)) (h := (h : Int)) (by omega) ⟨by omega, by omega⟩ hS
          have vs : ¬ (hourF w D (h : Int) (k : Int) s).1 1 = -1 → V8s (hourF w D (h : Int) (k : Int) s).1 ∧ 0 ≤ (hourF w D (h : Int) (k : Int) s).1 3 ∧ (hourF w D (h : Int) (k : Int) s).1 3 ≤ 14 := fun z => by
            have st := hour_step hw.2.1 hP hD hS.1 (by omega) h87 k2 hb1 z
            refine ⟨(v8_step hw.2.1 hV.1 st).1, ?_⟩
            obtain ⟨_, _, _, _, _, _, ⟨e3, _, _⟩ | ⟨_, e3, _, _⟩⟩ := st
            · rw [e3]; exact hV.2
            · rw [e3]; omega
          refine gx_cv (nx := 135) (S2 := []) (ih0 (h + 1) n112 q (hourF w D (h : Int) (k : Int) s).1 (pre ++ [(k : Int)]) (fun L => acc L ++ (catL (altH w D L h s (fun q => rowsH w D np L f (h + 1) q)) k).map (fun z => pre ++ z)) (by omega) (by omega) (by rw [List.length_append, hpre]; rfl) ⟨hi_n112.1, hi_n112.2.1, hi_n112.2.2.1, hi_n112.2.2.2.1, rs_n112, by rw [w7_n112]; split; exact Or.inr rfl; exact Or.inl rfl, tr_n112⟩ sb vs hs_n112) r_248_132 rfl rfl rfl rfl rfl (rcv_v rfl (thunt_0 hgt) (by omega) rfl (by decide)) rfl (by omega) rfl (fun n132 q132 => ?_)
          obtain ⟨hs_n132, hr_n132, fn_n132, lx_n132⟩ := q132
          have ft_n132 : FrH g h n112 n132 := fun p i x y z u => fn_n132 p i x (fun c => y ⟨c.1, by omega⟩) z (fun c => u ⟨by omega, c.2⟩)
          have fh_n132 : FrH g h m n132 := frh_tr fh_n112 ft_n132 (Nat.le_refl h)
          have hl_n132 : (h : Int) ≤ n132 g 6 := lx_n132 (h : Int) (by omega) (by rw [e6_n112]; exact hl6)
          show GX T (4 + (f + 1)) 248 135 [(2, (g : Int)), (2, (o : Int)), (0, (h : Int)), (2, (r : Int)), (2, (q : Int)), (0, (k : Int))] [] n132 (RV (fun m1 => HuntS m1 g lim0 (fun L => acc L ++ (catL (altH w D L h s (fun q => rowsH w D np L f (h + 1) q)) (10 + np)).map (fun z => pre ++ z)) ∧ HuntR m1 g ∧ FrH g h m m1 ∧ ∀ x : Int, x ≤ (h : Int) → x ≤ m g 6 → x ≤ m1 g 6))
          refine gx_li (z := (k : Int) + 1) (L' := [(2, (g : Int)), (2, (o : Int)), (0, (h : Int)), (2, (r : Int)), (2, (q : Int)), (0, (k : Int) + 1)]) r_248_135 rfl (w32_eq (by omega) (by omega) (by omega)) rfl ?_
          refine gx_st (L' := [(2, (g : Int)), (2, (o : Int)), (0, (h : Int)), (2, (r : Int)), (2, (q : Int)), (0, (k : Int) + 1)]) (S' := []) r_248_138 rfl rfl rfl ?_
          rw [show (k : Int) + 1 = ((k + 1 : Nat) : Int) from rfl]
          refine gx_imp (ih (k + 1) n132 (by omega) (by omega) (loopi_fr hI2 fh_n132 hr_n132 hdo hr h12) (hunts_ext hs_n132 (fun L _ => ?_)) hl_n132) (fun v m1 ⟨y, a1, a2, a3, a4⟩ => ⟨y, a1, a2, frh_tr fh_n132 a3 (Nat.le_refl h), fun x x1 _ => a4 x x1 (by omega)⟩)
          show acc L ++ (catL (altH w D L h s (fun q => rowsH w D np L f (h + 1) q)) k ++ (altH w D L h s (fun q => rowsH w D np L f (h + 1) q)) k).map (fun z => pre ++ z) = _
          by_cases c : h = L
          · rw [altH_la k2 c, rowsH_no (Or.inr (by omega))]; exact congrArg (fun z => acc L ++ List.map (fun z => pre ++ z) z) (List.append_nil _) |>.trans (List.append_nil _).symm
          · rw [altH_go h87 k2 c, List.map_append, List.append_assoc, List.map_map]
            refine congrArg (fun z => acc L ++ (_ ++ z)) (List.map_congr_left (fun z _ => ?_))
            show pre ++ ((k : Int) :: z) = (pre ++ [(k : Int)]) ++ z
            rw [List.append_assoc]; rfl
        · have h116 := Decidable.not_not.mp h116
          refine gx_st (L' := [(2, (g : Int)), (2, (o : Int)), (0, (h : Int)), (2, (r : Int)), (2, (q : Int)), (0, (k : Int))]) (S' := [(2, (g : Int))]) r_248_119 rfl rfl rfl ?_
          refine gx_st (L' := [(2, (g : Int)), (2, (o : Int)), (0, (h : Int)), (2, (r : Int)), (2, (q : Int)), (0, (k : Int))]) (S' := [(0, (h : Int)), (2, (g : Int))]) r_248_120 rfl rfl rfl ?_
          have k2 : k = 2 := (hour_5 hb1 h87).mp (ev.symm.trans (by omega))
          have hfd := fun (m1 : Mm) => hunts_fd (m1 := m1) (r := pre ++ [(k : Int)]) hs_n112 (by rw [e6_n112]; exact hl6) h12 (by rw [List.length_append, hpre]; rfl) (fun i hi => by
            by_cases c : i < h
            · rw [at0_lt (by omega)]; exact (hi_n112.2.2.2.2.2.2 i c).symm
            · rw [at0_ge (by omega), show i - pre.length = 0 by omega, show i = h by omega]; exact hk_n112.symm)
          refine gx_cv (nx := 124) (S2 := []) (gx_d (d := 3 + (f + 1)) (z_249 hT hgt hr_n112 h) (by omega)) r_248_121 rfl rfl rfl rfl rfl (rcv_v rfl (thunt_0 hgt) (by omega) rfl (by decide)) rfl (by omega) rfl (fun n121 q121 => ?_)
          obtain ⟨y1, y2, ff⟩ := q121
          obtain ⟨hs_n121, hl_n121⟩ := hfd n121 y1 y2
          have ft_n121 : FrH g h n112 n121 := fun p i x y z u => ff p i x z
          have fh_n121 : FrH g h m n121 := frh_tr fh_n112 ft_n121 (Nat.le_refl h)
          have hr_n121 : HuntR n121 g := huntr_eq hr_n112 (fun p i z => ff p i (by rcases z with z | z | z <;> omega) (by rcases z with z | z | z <;> omega))
          show GX T (4 + (f + 1)) 248 124 [(2, (g : Int)), (2, (o : Int)), (0, (h : Int)), (2, (r : Int)), (2, (q : Int)), (0, (k : Int))] [] n121 (RV (fun m1 => HuntS m1 g lim0 (fun L => acc L ++ (catL (altH w D L h s (fun q => rowsH w D np L f (h + 1) q)) (10 + np)).map (fun z => pre ++ z)) ∧ HuntR m1 g ∧ FrH g h m m1 ∧ ∀ x : Int, x ≤ (h : Int) → x ≤ m g 6 → x ≤ m1 g 6))
          refine gx_st (L' := [(2, (g : Int)), (2, (o : Int)), (0, (h : Int)), (2, (r : Int)), (2, (q : Int)), (0, (k : Int))]) (S' := []) r_248_124 rfl rfl rfl ?_
          refine gx_li (z := (k : Int) + 1) (L' := [(2, (g : Int)), (2, (o : Int)), (0, (h : Int)), (2, (r : Int)), (2, (q : Int)), (0, (k : Int) + 1)]) r_248_135 rfl (w32_eq (by omega) (by omega) (by omega)) rfl ?_
          refine gx_st (L' := [(2, (g : Int)), (2, (o : Int)), (0, (h : Int)), (2, (r : Int)), (2, (q : Int)), (0, (k : Int) + 1)]) (S' := []) r_248_138 rfl rfl rfl ?_
          rw [show (k : Int) + 1 = ((k + 1 : Nat) : Int) from rfl]
          refine gx_imp (ih (k + 1) n121 (by omega) (by omega) (loopi_fr hI2 fh_n121 hr_n121 hdo hr h12) (hunts_ext hs_n121 (fun L _ => ?_)) hl_n121) (fun v m1 ⟨y, a1, a2, a3, a4⟩ => ⟨y, a1, a2, frh_tr fh_n121 a3 (Nat.le_refl h), fun x x1 _ => a4 x x1 (by omega)⟩)
          show acc L ++ (catL (altH w D L h s (fun q => rowsH w D np L f (h + 1) q)) k ++ (altH w D L h s (fun q => rowsH w D np L f (h + 1) q)) k).map (fun z => pre ++ z) = _
          rw [altH_th h87 k2, List.map_append, List.append_assoc]
          by_cases c : h = L
          · rw [if_pos c, if_pos c, k2]; rfl
          · rw [if_neg c, if_neg c]; rfl
theorem e_248 (hT : TT T) {g o : Nat} (hgt : HuntT T g) {h : Int} (hh : m g 6 < h) : GX T 1 248 0 [(2, (g : Int)), (2, (o : Int)), (0, h), (9, 0), (9, 0), (9, 0)] [] m (RV (fun m1 => m1 = m)) := by
  have hg0 := hgt.1
  refine gx_st (L' := [(2, (g : Int)), (2, (o : Int)), (0, h), (9, 0), (9, 0), (9, 0)]) (S' := [(0, h)]) r_248_0 rfl rfl rfl ?_
  refine gx_st (L' := [(2, (g : Int)), (2, (o : Int)), (0, h), (9, 0), (9, 0), (9, 0)]) (S' := [(2, (g : Int)), (0, h)]) r_248_1 rfl rfl rfl ?_
  refine gx_gf (x := (m g 6)) 0 r_248_2 (rfl) (thunt_0 hgt) ⟨by omega, rfl, by decide, by decide⟩ rfl (fun z => absurd z (by decide)) (rfl) ?_
  refine gx_ic (P := (m g 6) < h) r_248_5 (rfl) (fun h5 => ?_) (fun h5 => ?_)
  · exact gx_rt r_248_23 rfl rfl ⟨rfl, rfl⟩
  · exact absurd h5 (by omega)
theorem s_248 (hT : TT T) {o : Nat} (ho : IsleT T o) {w : Wd} (hP : WP w) (hR : WR w) {D : Nat → Nat → Int} (hD : WyD w D) {np : Nat} (hnp : w 0 = (np : Int)) {g : Nat} (hgt : HuntT T g) (hdo : g + 44 ≤ o ∨ o + 9 ≤ g) {lim0 : Int} (hl : lim0 < 12) {f h r : Nat} {s : Wd} {pre : List Int} {acc : Nat → List (List Int)} (hf : h + (f + 1) = 13) (h12 : h < 12) (hr : r = g + 5 + 3 * h) (hpre : pre.length = h) (hI : LoopI w D o g h r s pre m) (hS : SB w s h) (hV : (¬ s 1 = -1 → V8s s ∧ 0 ≤ s 3 ∧ s 3 ≤ 14)) (hs : HuntS m g lim0 acc) (hl6 : (h : Int) ≤ m g 6) (ih0 : (∀ (h : Nat) (m : Mm) (r : Nat) (s : Wd) (pre : List Int) (acc : Nat → List (List Int)), h + f = 13 → r = g + 5 + 3 * h → pre.length = h → LoopI w D o g h r s pre m → SB w s h → (¬ s 1 = -1 → V8s s ∧ 0 ≤ s 3 ∧ s 3 ≤ 14) → HuntS m g lim0 acc → GX T (4 + f) 248 0 [(2, (g : Int)), (2, (o : Int)), (0, (h : Int)), (9, 0), (9, 0), (9, 0)] [] m (RV (fun m1 => HuntS m1 g lim0 (fun L => acc L ++ (rowsH w D np L f h s).map (fun z => pre ++ z)) ∧ HuntR m1 g ∧ FrH g h m m1 ∧ ∀ x : Int, x ≤ (h : Int) → x ≤ m g 6 → x ≤ m1 g 6)))) : GX T (4 + (f + 1)) 248 0 [(2, (g : Int)), (2, (o : Int)), (0, (h : Int)), (9, 0), (9, 0), (9, 0)] [] m (RV (fun m1 => HuntS m1 g lim0 (fun L => acc L ++ (rowsH w D np L (f + 1) h s).map (fun z => pre ++ z)) ∧ HuntR m1 g ∧ FrH g h m m1 ∧ ∀ x : Int, x ≤ (h : Int) → x ≤ m g 6 → x ≤ m1 g 6)) := by
  have hI2 := hI
  obtain ⟨hg, hor, hw, hbw, hrs, h7r, htr⟩ := hI2
  have hg0 := hgt.1
  have ho0 := ho.1
  have b0 := hw.2.1.1
  have b6 := hw.2.1.2.2.2.1
  obtain ⟨q, hq⟩ : ∃ q : Nat, q = g + 8 + 3 * h := ⟨_, rfl⟩
  have tr := hgt.2.2.2.2.2.2 h (by omega)
  have tq := hgt.2.2.2.2.2.2 (h + 1) (by omega)
  rw [← hr] at tr
  rw [show g + 5 + 3 * (h + 1) = q by omega] at tq
  have hrr := (hg.2.2.2.2 h (by omega)).2
  rw [← hr] at hrr
  have tr0 := tr.1
  have l6 : m g 6 ≤ lim0 := by
    rcases hs with ⟨_, _, h6, _⟩ | ⟨L, _, h6, h7, _⟩ <;> omega
  refine gx_st (L' := [(2, (g : Int)), (2, (o : Int)), (0, (h : Int)), (9, 0), (9, 0), (9, 0)]) (S' := [(0, (h : Int))]) r_248_0 rfl rfl rfl ?_
  refine gx_st (L' := [(2, (g : Int)), (2, (o : Int)), (0, (h : Int)), (9, 0), (9, 0), (9, 0)]) (S' := [(2, (g : Int)), (0, (h : Int))]) r_248_1 rfl rfl rfl ?_
  refine gx_gf (x := (m g 6)) 0 r_248_2 (rfl) (thunt_0 hgt) ⟨by omega, rfl, by decide, by decide⟩ rfl (fun z => absurd z (by decide)) (rfl) ?_
  refine gx_ic (P := (m g 6) < (h : Int)) r_248_5 (rfl) (fun h5 => ?_) (fun h5 => ?_)
  · exact absurd h5 (by omega)
  · refine gx_st (L' := [(2, (g : Int)), (2, (o : Int)), (0, (h : Int)), (9, 0), (9, 0), (9, 0)]) (S' := [(0, (h : Int))]) r_248_8 rfl rfl rfl ?_
    refine gx_i0 (P := (h : Int) < 0) r_248_9 (rfl) (fun h9 => ?_) (fun h9 => ?_)
    · exact absurd h9 (by omega)
    · refine gx_st (L' := [(2, (g : Int)), (2, (o : Int)), (0, (h : Int)), (9, 0), (9, 0), (9, 0)]) (S' := [(0, (h : Int))]) r_248_12 rfl rfl rfl ?_
      refine gx_st (L' := [(2, (g : Int)), (2, (o : Int)), (0, (h : Int)), (9, 0), (9, 0), (9, 0)]) (S' := [(0, 1), (0, (h : Int))]) r_248_13 rfl rfl rfl ?_
      refine gx_ar (L' := [(2, (g : Int)), (2, (o : Int)), (0, (h : Int)), (9, 0), (9, 0), (9, 0)]) (S' := []) (t := 0) (e := w32 ((h : Int) + 1)) (z := (h : Int) + 1) r_248_14 rfl rfl rfl (w32_eq (by omega) (by omega) (by omega)) ?_
      refine gx_st (L' := [(2, (g : Int)), (2, (o : Int)), (0, (h : Int)), (9, 0), (9, 0), (9, 0)]) (S' := [(2, (g : Int)), (0, (h : Int) + 1)]) r_248_15 rfl rfl rfl ?_
      refine gx_gf (x := (g : Int) + 1) 2 r_248_16 (rfl) (thunt_0 hgt) ⟨by omega, rfl, by decide, by decide⟩ rfl (fun _ => by omega) (hg.1) ?_
      refine gx_al r_248_19 (by omega) (thunt_1 hgt) ⟨by decide, by decide, by decide⟩ ?_
      show GX T (4 + (f + 1)) 248 20 [(2, (g : Int)), (2, (o : Int)), (0, (h : Int)), (9, 0), (9, 0), (9, 0)] [(0, 13), (0, (h : Int) + 1)] m (RV (fun m1 => HuntS m1 g lim0 (fun L => acc L ++ (rowsH w D np L (f + 1) h s).map (fun z => pre ++ z)) ∧ HuntR m1 g ∧ FrH g h m m1 ∧ ∀ x : Int, x ≤ (h : Int) → x ≤ m g 6 → x ≤ m1 g 6))
      refine gx_ic (P := (h : Int) + 1 < 13) r_248_20 (rfl) (fun h20 => ?_) (fun h20 => ?_)
      · refine gx_st (L' := [(2, (g : Int)), (2, (o : Int)), (0, (h : Int)), (9, 0), (9, 0), (9, 0)]) (S' := [(2, (g : Int))]) r_248_24 rfl rfl rfl ?_
        refine gx_gf (x := (g : Int) + 1) 2 r_248_25 (rfl) (thunt_0 hgt) ⟨by omega, rfl, by decide, by decide⟩ rfl (fun _ => by omega) (hg.1) ?_
        refine gx_st (L' := [(2, (g : Int)), (2, (o : Int)), (0, (h : Int)), (9, 0), (9, 0), (9, 0)]) (S' := [(0, (h : Int)), (2, (g : Int) + 1)]) r_248_28 rfl rfl rfl ?_
        refine gx_aa (n := h) (x := (r : Int)) r_248_29 (by omega) (by omega) (thunt_1 hgt) (by omega) ⟨by decide, by decide, by omega⟩ (by rw [(hg.2.2.2.2 h (by omega)).1, hr]; omega) (by omega) ?_
        refine gx_st (L' := [(2, (g : Int)), (2, (o : Int)), (0, (h : Int)), (2, (r : Int)), (9, 0), (9, 0)]) (S' := []) r_248_30 rfl rfl rfl ?_
        refine gx_st (L' := [(2, (g : Int)), (2, (o : Int)), (0, (h : Int)), (2, (r : Int)), (9, 0), (9, 0)]) (S' := [(2, (g : Int))]) r_248_31 rfl rfl rfl ?_
        refine gx_gf (x := (g : Int) + 1) 2 r_248_32 (rfl) (thunt_0 hgt) ⟨by omega, rfl, by decide, by decide⟩ rfl (fun _ => by omega) (hg.1) ?_
        refine gx_st (L' := [(2, (g : Int)), (2, (o : Int)), (0, (h : Int)), (2, (r : Int)), (9, 0), (9, 0)]) (S' := [(0, (h : Int)), (2, (g : Int) + 1)]) r_248_35 rfl rfl rfl ?_
        refine gx_st (L' := [(2, (g : Int)), (2, (o : Int)), (0, (h : Int)), (2, (r : Int)), (9, 0), (9, 0)]) (S' := [(0, 1), (0, (h : Int)), (2, (g : Int) + 1)]) r_248_36 rfl rfl rfl ?_
        refine gx_ar (L' := [(2, (g : Int)), (2, (o : Int)), (0, (h : Int)), (2, (r : Int)), (9, 0), (9, 0)]) (S' := [(2, (g : Int) + 1)]) (t := 0) (e := w32 ((h : Int) + 1)) (z := (h : Int) + 1) r_248_37 rfl rfl rfl (w32_eq (by omega) (by omega) (by omega)) ?_
        refine gx_aa (n := h + 1) (x := (q : Int)) r_248_38 (by omega) (by omega) (thunt_1 hgt) (by omega) ⟨by decide, by decide, by omega⟩ (by rw [(hg.2.2.2.2 (h + 1) (by omega)).1, hq]; omega) (by omega) ?_
        refine gx_st (L' := [(2, (g : Int)), (2, (o : Int)), (0, (h : Int)), (2, (r : Int)), (2, (q : Int)), (9, 0)]) (S' := []) r_248_39 rfl rfl rfl ?_
        refine gx_st (L' := [(2, (g : Int)), (2, (o : Int)), (0, (h : Int)), (2, (r : Int)), (2, (q : Int)), (9, 0)]) (S' := [(2, (r : Int))]) r_248_41 rfl rfl rfl ?_
        refine gx_gf (x := (s 1)) 0 r_248_42 (rfl) (tride_0 tr) ⟨by omega, rfl, by decide, by decide⟩ rfl (fun z => absurd z (by decide)) (hrs.2.1) ?_
        refine gx_st (L' := [(2, (g : Int)), (2, (o : Int)), (0, (h : Int)), (2, (r : Int)), (2, (q : Int)), (9, 0)]) (S' := [(0, (-1)), (0, (s 1))]) r_248_45 rfl rfl rfl ?_
        refine gx_ic (P := (s 1) = (-1)) r_248_46 (rfl) (fun h46 => ?_) (fun h46 => ?_)
        · have z : ∀ L : Nat, (L : Int) ≤ m g 6 → rowsH w D np L (f + 1) h s = [] := fun L hL => by
            first
              | exact rowsH_no (Or.inl h46)
              | (apply Classical.byContradiction
                 intro c
                 have := rows_so hw.2.1 hP hD (dsm_of hw hD) (np := np) (L := L) (by omega) (by omega) (f + 1) h s hS vv.1 c
                 unfold soF at this
                 omega)
          exact gx_rt r_248_63 rfl rfl ⟨rfl, hunts_ext hs (fun L hL => by rw [z L hL]; exact List.append_nil _), hg, fun _ _ _ _ _ _ => rfl, fun _ _ z => z⟩
        · refine gx_st (L' := [(2, (g : Int)), (2, (o : Int)), (0, (h : Int)), (2, (r : Int)), (2, (q : Int)), (9, 0)]) (S' := [(2, (g : Int))]) r_248_49 rfl rfl rfl ?_
          refine gx_st (L' := [(2, (g : Int)), (2, (o : Int)), (0, (h : Int)), (2, (r : Int)), (2, (q : Int)), (9, 0)]) (S' := [(2, (o : Int)), (2, (g : Int))]) r_248_50 rfl rfl rfl ?_
          refine gx_st (L' := [(2, (g : Int)), (2, (o : Int)), (0, (h : Int)), (2, (r : Int)), (2, (q : Int)), (9, 0)]) (S' := [(2, (r : Int)), (2, (o : Int)), (2, (g : Int))]) r_248_51 rfl rfl rfl ?_
          refine gx_st (L' := [(2, (g : Int)), (2, (o : Int)), (0, (h : Int)), (2, (r : Int)), (2, (q : Int)), (9, 0)]) (S' := [(0, (h : Int)), (2, (r : Int)), (2, (o : Int)), (2, (g : Int))]) r_248_52 rfl rfl rfl ?_
          obtain ⟨b, p, hb, hb7, hp, hpn⟩ := hS.1.resolve_left h46
          have vv := hV h46
          refine gx_ci (nx := 56) (S2 := []) (gx_d (d := 3 + f) (z_250 hT ho hor hw hD hgt hg hbw tr hrr hrs hp hpn hR (h := h) (n := (w 6).toNat) (by omega) (by omega) (by omega)) (by omega)) r_248_53 rfl rfl rfl rfl rfl (rcv_v rfl (thunt_0 hgt) (by omega) rfl (by decide)) rfl (by omega) rfl (fun x53 n53 q53 => ?_)
          obtain ⟨e_x53, z_x53⟩ := q53
          obtain rfl := z_x53.symm
          show GX T (4 + (f + 1)) 248 56 [(2, (g : Int)), (2, (o : Int)), (0, (h : Int)), (2, (r : Int)), (2, (q : Int)), (9, 0)] [(0, x53)] m (RV (fun m1 => HuntS m1 g lim0 (fun L => acc L ++ (rowsH w D np L (f + 1) h s).map (fun z => pre ++ z)) ∧ HuntR m1 g ∧ FrH g h m m1 ∧ ∀ x : Int, x ≤ (h : Int) → x ≤ m g 6 → x ≤ m1 g 6))
          refine gx_st (L' := [(2, (g : Int)), (2, (o : Int)), (0, (h : Int)), (2, (r : Int)), (2, (q : Int)), (9, 0)]) (S' := [(2, (g : Int)), (0, x53)]) r_248_56 rfl rfl rfl ?_
          refine gx_gf (x := (m g 6)) 0 r_248_57 (rfl) (thunt_0 hgt) ⟨by omega, rfl, by decide, by decide⟩ rfl (fun z => absurd z (by decide)) (rfl) ?_
          refine gx_ic (P := x53 ≤ (m g 6)) r_248_60 (rfl) (fun h60 => ?_) (fun h60 => ?_)
          · refine gx_st (L' := [(2, (g : Int)), (2, (o : Int)), (0, (h : Int)), (2, (r : Int)), (2, (q : Int)), (9, 0)]) (S' := [(0, 0)]) r_248_64 rfl rfl rfl ?_
            refine gx_st (L' := [(2, (g : Int)), (2, (o : Int)), (0, (h : Int)), (2, (r : Int)), (2, (q : Int)), (0, 0)]) (S' := []) r_248_65 rfl rfl rfl ?_
            have vv2 := hV h46
            refine gx_imp (sk_l hT ho hP hR hD hnp hgt hdo hl hf h12 hr hq hpre h46 hS vv2 ih0 (10 + np + 1) 0 m (by omega) (by omega) hI (hunts_ext hs (fun L _ => List.append_nil _)) hl6) (fun v m1 ⟨y, a1, a2, a3, a4⟩ => ⟨y, hunts_ext a1 (fun L hL => ?_), a2, a3, a4⟩)
            by_cases c : h ≤ L
            · rw [rowsH_s h46 c]
            · rw [rowsH_no (Or.inr (by omega)), catL_nil _ (fun i _ => ?_)]
              by_cases z : okH w D h i s = true
              · by_cases y : i = 2
                · rw [altH_th z y, if_neg (by omega)]
                · rw [altH_go z y (by omega), rowsH_no (Or.inr (by omega))]; rfl
              · exact altH_no z
          · have z : ∀ L : Nat, (L : Int) ≤ m g 6 → rowsH w D np L (f + 1) h s = [] := fun L hL => by
              first
                | exact rowsH_no (Or.inl h46)
                | (apply Classical.byContradiction
                   intro c
                   have := rows_so hw.2.1 hP hD (dsm_of hw hD) (np := np) (L := L) (by omega) (by omega) (f + 1) h s hS vv.1 c
                   unfold soF at this
                   omega)
            exact gx_rt r_248_63 rfl rfl ⟨rfl, hunts_ext hs (fun L hL => by rw [z L hL]; exact List.append_nil _), hg, fun _ _ _ _ _ _ => rfl, fun _ _ z => z⟩
      · exact absurd h20 (by omega)
theorem z_248 (hT : TT T) {o : Nat} (ho : IsleT T o) {w : Wd} (hP : WP w) (hR : WR w) {D : Nat → Nat → Int} (hD : WyD w D) {np : Nat} (hnp : w 0 = (np : Int)) {g : Nat} (hgt : HuntT T g) (hdo : g + 44 ≤ o ∨ o + 9 ≤ g) {lim0 : Int} (hl : lim0 < 12) : ∀ (f h : Nat) (m : Mm) (r : Nat) (s : Wd) (pre : List Int) (acc : Nat → List (List Int)), h + f = 13 → r = g + 5 + 3 * h → pre.length = h → LoopI w D o g h r s pre m → SB w s h → (¬ s 1 = -1 → V8s s ∧ 0 ≤ s 3 ∧ s 3 ≤ 14) → HuntS m g lim0 acc → GX T (4 + f) 248 0 [(2, (g : Int)), (2, (o : Int)), (0, (h : Int)), (9, 0), (9, 0), (9, 0)] [] m (RV (fun m1 => HuntS m1 g lim0 (fun L => acc L ++ (rowsH w D np L f h s).map (fun z => pre ++ z)) ∧ HuntR m1 g ∧ FrH g h m m1 ∧ ∀ x : Int, x ≤ (h : Int) → x ≤ m g 6 → x ≤ m1 g 6)) := by
  intro f
  induction f with
  | zero =>
    intro h m r s pre acc hf hr hpre hI hS hV hs
    have l6 : m g 6 ≤ lim0 := by
      rcases hs with ⟨_, _, h6, _⟩ | ⟨L, _, h6, h7, _⟩ <;> omega
    refine gx_imp (gx_d (e_248 hT hgt (o := o) (h := (h : Int)) (by omega)) (by omega)) (fun v m1 ⟨y, a1⟩ => ⟨y, ?_⟩)
    rw [a1]
    exact ⟨hunts_ext hs (fun L _ => List.append_nil _), hI.1, fun _ _ _ _ _ _ => rfl, fun _ _ z => z⟩
  | succ f ih =>
    intro h m r s pre acc hf hr hpre hI hS hV hs
    have l6 : m g 6 ≤ lim0 := by
      rcases hs with ⟨_, _, h6, _⟩ | ⟨L, _, h6, h7, _⟩ <;> omega
    by_cases c : (h : Int) ≤ m g 6
    · exact s_248 hT ho hP hR hD hnp hgt hdo hl hf (by omega) hr hpre hI hS hV hs c ih
    · refine gx_imp (gx_d (e_248 hT hgt (o := o) (h := (h : Int)) (by omega)) (by omega)) (fun v m1 ⟨y, a1⟩ => ⟨y, ?_⟩)
      rw [a1]
      exact ⟨hunts_ext hs (fun L hL => by rw [rowsH_no (Or.inr (by omega))]; exact List.append_nil _), hI.1, fun _ _ _ _ _ _ => rfl, fun _ _ z => z⟩
end HUNTD
