/-! the law's entry: the abstract machine's world of it -/
def tmS (i : Nat) : Term := .string "NeckRider$Tape" (strT.getD i 0)
def srOk (w : Cond) : Bool := match w with
  | .stringRef own i t => (List.range 15).all (fun k => decide (strF[k]? ≠ some t) || (decide (own = "NeckRider$Tape") && decide (i = strT.getD k 0)) || (decide (own = "NeckRiderModel") && decide (i = strM.getD k 0)))
  | _ => true
set_option maxRecDepth 100000 in
set_option maxHeartbeats 0 in
theorem sr_all : lw_tbl.all srOk = true := by decide +kernel
abbrev prem : Cond := Cond.and given_1 narrow_1
set_option maxRecDepth 100000 in
set_option maxHeartbeats 0 in
theorem pr_ex : ∀ i : Nat, i < 15 → Cond.exactly (tmS i) "java/lang/String" ∈ flatC prem ∧ Cond.eq (.field (tmS i) "java/lang/String" "coder" "B") (.int 0) ∈ flatC prem ∧ Cond.arrayOf (.field (tmS i) "java/lang/String" "value" "[B") .byte ∈ flatC prem ∧ Cond.eq (.length (.field (tmS i) "java/lang/String" "value" "[B")) (.int (Int32.ofNat (lenS.getD i 0))) ∈ flatC prem
    ∧ Cond.eq (tmS i) (.string "NeckRiderModel" (strM.getD i 0)) ∈ flatC prem := by decide +kernel
set_option maxRecDepth 100000 in
set_option maxHeartbeats 0 in
theorem pr_el : ∀ i : Nat, i < 15 → ∀ j : Nat, j < lenS.getD i 0 → Cond.eq (.elem (.field (tmS i) "java/lang/String" "value" "[B") (.int (Int32.ofNat j))) (.int ((bytS.getD i []).getD j 0)) ∈ flatC prem := by decide +kernel
set_option maxRecDepth 100000 in
set_option maxHeartbeats 0 in
theorem pr_st : Cond.eq (.static "java/lang/String" "COMPACT_STRINGS" "Z") (.int 1) ∈ flatC prem ∧ Cond.isRef (.static "jdk/internal/util/Preconditions" "SIOOBE_FORMATTER" "Ljava/util/function/BiFunction;") ∈ flatC prem := by decide +kernel
set_option maxRecDepth 100000 in
set_option maxHeartbeats 0 in
theorem pr_in : Cond.initialized "java/lang/String" ∈ lw_tbl ∧ Cond.initialized "jdk/internal/util/Preconditions" ∈ lw_tbl := by decide +kernel
theorem len_lt : ∀ i : Nat, i < 15 → lenS.getD i 0 < 2 ^ 31 := by decide +kernel
/-- the strings' cells -/
theorem st_strings {args : Array Value} {s : State} {A : Nat → Prop} (hp : ∀ w ∈ flatC prem, w.before args s = true) (hA : ∀ a : Nat, a < s.heap.size → ¬ A a) :
    ∃ ad adV : Nat → Nat, sK ad adV A s s.heap ∧ ∀ i : Nat, i < 15 → (tmS i).eval args s none [] s = some (.ref (ad i)) := by
  have h0 : ∀ i : Nat, ∃ q : Nat × Nat, i < 15 → (tmS i).eval args s none [] s = some (.ref q.1) ∧ va_O "java/lang/String" q.1 A s s.heap ∧ va_OF "java/lang/String" "coder" "B" (.int 0) q.1 A s s.heap ∧ va_OF "java/lang/String" "value" "[B" (.ref q.2) q.1 A s s.heap ∧ va_T .byte q.2 (lenS.getD i 0) (fun j => .int ((bytS.getD i []).getD j 0)) A s s.heap := by
    intro i
    by_cases hi : i < 15
    · obtain ⟨p1, p2, p3, p4, -⟩ := pr_ex i hi
      obtain ⟨a, c, cA, kA, q1, q2, q3, q4, q5, q6, -⟩ := Cond.exactly_spec (args := args) (first := s) (o := none) (s := s) (idx := []) (t := tmS i) (cls := "java/lang/String") (hp _ p1)
      obtain ⟨t, ht, hT⟩ := va_Tof (f := fun j => .int ((bytS.getD i []).getD j 0)) (A := A) (len_lt i hi) (hp _ p3) (va_eqt (hp _ p4)) (fun j hj => va_eqt (hp _ (pr_el i hi j hj))) hA
      exact ⟨(a, t), fun _ => ⟨q1, ⟨cA, q3, q5, by rw [q6]; exact q2, hA a (Array.getElem?_eq_some_iff.mp q3).1⟩, vk_OFof q1 (va_eqt (hp _ p2)) hA, vk_OFof q1 ht hA, hT⟩⟩
    · exact ⟨(0, 0), fun h => absurd h hi⟩
  obtain ⟨ad, had⟩ := Classical.axiomOfChoice h0
  exact ⟨fun i => (ad i).1, fun i => (ad i).2, fun i hi => (had i hi).2, fun i hi => (had i hi).1⟩
theorem cls_ga {c : Nat} {q : vw_C} (h : cls[c]? = some q) : ∃ C, clF[c]? = some C ∧ q = (C.1, mkT C, C.2.2.2.length) := by
  unfold cls at h
  rw [List.getElem?_map, Option.map_eq_some_iff] at h
  obtain ⟨C, h1, h2⟩ := h
  exact ⟨C, h1, h2.symm⟩
theorem st_cls {args : Array Value} {s : State} (hts : ∀ w ∈ lw_tbl, w.before args s = true) : ∃ D : va_G, ∀ (c : Nat) (q : vw_C), cls[c]? = some q → u_Kn s q.1 q.2.1 q.2.2 (D.1 c) (D.2 c) := by
  have h0 : ∀ c : Nat, ∃ r : ClassId × (Nat → Nat), ∀ q : vw_C, cls[c]? = some q → u_Kn s q.1 q.2.1 q.2.2 r.1 r.2 := by
    intro c
    cases hc : cls[c]? with
    | none => exact ⟨(0, fun _ => 0), fun q h => by cases h⟩
    | some q =>
      obtain ⟨C, hC, rfl⟩ := cls_ga hc
      have hin := cl_hin hC
      have hck := cl_of hC
      unfold clOk at hck
      simp only [Bool.and_eq_true] at hck
      obtain ⟨cC, iS, hK⟩ := u_known (ws := lw_tbl) (s := s) (args := args) (C := C.1) (T := mkT C) (N := C.2.2.2.length) (n := C.2.2.2.length) hts (fun w hw => (lwG_good w (hin w hw)).1) (hts _ (wAt_in hck.1.1.1))
      exact ⟨(cC, iS), fun q h => by cases h; exact hK⟩
  obtain ⟨r, hr⟩ := Classical.axiomOfChoice h0
  exact ⟨(fun c => (r c).1, fun c => (r c).2), fun c q h => hr c q h⟩
theorem st_arr {args : Array Value} {s : State} {ty : FieldType} (hty : ∀ C, ty ≠ .object C) (h : (Cond.arrayClass ty).before args s = true) : ∃ cA : ClassId, ArrOfT s cA ty ∧ va_RA s cA ty := by
  obtain ⟨c, k, comp, h1, h2, h3⟩ := Cond.arrayClass_spec h
  refine ⟨c, fun n z => ⟨fun k h => (by cases h), k, h2, comp, h3⟩, ?_⟩
  unfold va_RA
  split
  · rename_i C
    exact absurd rfl (hty C)
  · exact h1
theorem st_arO {args : Array Value} {s : State} {C : String} (h : (Cond.arrayOver (.object C)).before args s = true) : ∃ cA : ClassId, ArrOfT s cA (.object C) ∧ va_RA s cA (.object C) := by
  obtain ⟨comp, c, k, h1, -, h3, h4, h5⟩ := Cond.arrayOver_spec h
  exact ⟨c, fun n z => ⟨fun k h => (by cases h), k, h3, comp, h4⟩, ⟨k, comp, h3, h4, h1, h5⟩⟩
/-- the world at the law's entry -/
theorem st_G {b : Nat} {s : State} (hts : ∀ w ∈ lw_tbl, w.before #[Value.ref b] s = true) (hg : prem.before #[Value.ref b] s = true) : ∃ G : GG, G.1 = s.heap.size ∧ G.2.1 = b ∧ EN G s ∧ SO G s s.heap := by
  have hp := flat_of_before _ hg
  obtain ⟨ad, adV, hS, hE⟩ := st_strings (A := fun q => s.heap.size ≤ q) hp (fun a h1 h2 => by omega)
  obtain ⟨D, hD⟩ := st_cls hts
  have hi := sp_in
  obtain ⟨c0, a0, b0⟩ := st_arr (fun _ h => by cases h) (hts _ hi.1)
  obtain ⟨c1, a1, b1⟩ := st_arr (fun _ h => by cases h) (hts _ hi.2.1)
  obtain ⟨c2, a2, b2⟩ := st_arr (fun _ h => by cases h) (hts _ hi.2.2.1)
  obtain ⟨c3, a3, b3⟩ := st_arr (fun _ h => by cases h) (hts _ hi.2.2.2.1)
  obtain ⟨c4, a4, b4⟩ := st_arO (hts _ hi.2.2.2.2.1)
  obtain ⟨c5, a5, b5⟩ := st_arO (hts _ hi.2.2.2.2.2.1)
  obtain ⟨c6, a6, b6⟩ := st_arO (hts _ hi.2.2.2.2.2.2.1)
  obtain ⟨c7, a7, b7⟩ := st_arO (hts _ hi.2.2.2.2.2.2.2.1)
  refine ⟨(s.heap.size, b, ad, D, fun k => [c0, c1, c2, c3, c4, c5, c6, c7].getD k 0), rfl, rfl, ⟨⟨hD, fun k q hq => ?_⟩, fun k h1 h2 => ?_, fun own i rf n d h hq => va_Nw.of rfl (hts _ hq), fun own i y h hq => va_Nw.of rfl (hts _ hq), fun own i t k hq hk => ?_⟩, ⟨adV, hS⟩, ?_, ?_⟩
  · unfold tys at hq
    match k, hq with
    | 0, hq => cases hq; exact ⟨a0, b0⟩
    | 1, hq => cases hq; exact ⟨a1, b1⟩
    | 2, hq => cases hq; exact ⟨a2, b2⟩
    | 3, hq => cases hq; exact ⟨a3, b3⟩
    | 4, hq => cases hq; exact ⟨a4, b4⟩
    | 5, hq => cases hq; exact ⟨a5, b5⟩
    | 6, hq => cases hq; exact ⟨a6, b6⟩
    | 7, hq => cases hq; exact ⟨a7, b7⟩
    | k + 8, hq => simp at hq
  · rcases (show k = 104 ∨ k = 105 ∨ k = 106 ∨ k = 107 by omega) with rfl | rfl | rfl | rfl
    · exact va_AO.of (hts _ hi.2.2.2.2.1)
    · exact va_AO.of (hts _ hi.2.2.2.2.2.1)
    · exact va_AO.of (hts _ hi.2.2.2.2.2.2.1)
    · exact va_AO.of (hts _ hi.2.2.2.2.2.2.2.1)
  · have hk15 : k < 15 := (List.getElem?_eq_some_iff.mp hk).1
    have h1 := List.all_eq_true.mp sr_all _ hq
    unfold srOk at h1
    have h2 := List.all_eq_true.mp h1 k (List.mem_range.mpr hk15)
    simp only [Bool.or_eq_true, Bool.and_eq_true, decide_eq_true_eq] at h2
    refine vk_R.of (hts _ hq) ?_
    rcases h2 with (h2 | ⟨rfl, rfl⟩) | ⟨rfl, rfl⟩
    · exact absurd hk h2
    · exact hE k hk15
    · obtain ⟨y, y1, y2⟩ := Cond.eq_one (hp _ (pr_ex k hk15).2.2.2.2)
      rw [hE k hk15] at y1
      cases y1
      exact y2
  · exact va_Zof (hts _ jl_in.2.2.2.2.2.2.2.2.2.1) (hts _ pr_in.1) (va_eqi (hp _ pr_st.1)) (fun a h1 h2 => by unfold AZ at h2; dsimp only at h2; omega)
  · exact va_Zqof (hts _ jl_in.2.2.2.2.2.2.2.2.2.2) (hts _ pr_in.2) (hp _ pr_st.2) (fun a h1 h2 => by unfold AZ at h2; dsimp only at h2; omega)
def lawM : MR := (⟨"NeckRiderLaw", "law", "([I)Z"⟩, code, 4, some .boolean, (1, 0, 99, 3), (0, 0, 0, 0))
set_option maxRecDepth 100000 in
theorem law_at : mtab[316]? = some lawM := rfl
theorem lw_ent (b : Nat) (G : GG) (h : G.2.1 = b) : ([Value.ref b] : List Value) = [((2, 0) : AV)].map (tv G) := by
  subst h; rfl
