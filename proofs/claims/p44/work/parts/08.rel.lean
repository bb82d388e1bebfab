/-! the machine's world as the abstract one sees it -/
/-- first cell, script's cell, strings' cells, class numbers, array classes' numbers -/
abbrev GG : Type := Nat × Nat × (Nat → Nat) × va_G × (Nat → ClassId)
def adr (G : GG) (k : Nat) : Nat := if 1000000 ≤ k then G.2.2.1 (k - 1000000) else if k = 0 then G.2.1 else G.1 + (k - 1)
def tv (G : GG) (v : AV) : Value := if v.1 = 0 then .int (Int32.ofInt v.2) else if v.1 = 1 then .long (Int64.ofInt v.2) else if v.1 = 2 then .ref (adr G v.2.toNat) else .null
def fv (G : GG) (t : Nat) (x : Int) : Value := if t = 1 then .long (Int64.ofInt x) else if t = 2 then (if x < 0 then .null else .ref (adr G x.toNat)) else .int (Int32.ofInt x)
def ent (G : GG) (kd : Kd) (f : Nat → Int) : va_E :=
  if kd.1 < 100 then .inr (kd.1, (List.range kd.2).map (fun j => fv G (fty kd.1 j) (f j)))
  else if kd.1 = 101 then .inl (G.2.2.2.2 1, kd.2, .inr (.inl (fun j => Int64.ofInt (f j))))
  else if kd.1 < 104 then .inl (G.2.2.2.2 (kd.1 - 100), kd.2, .inl (fun j => Int32.ofInt (f j)))
  else .inl (G.2.2.2.2 (kd.1 - 100), kd.2, .inr (.inr (.inr (.inr (fun j => if f j < 0 then none else some (adr G (f j).toNat))))))
def wsO (G : GG) (sh : List Kd) (m : Mm) : va_W := (List.range (sh.length - 1)).map (fun i => (G.1 + i, ent G (sh.getD (i + 1) (0, 0)) (m (i + 1))))
def mkT (C : String × Nat × Nat × List CF) : u_T := fun k => match C.2.2.2[k]? with
  | some f => (C.1, f.1, f.2.1, f.2.2.1)
  | none => ("", "", "", false)
def cls : List vw_C := clF.map (fun C => (C.1, mkT C, C.2.2.2.length))
def tys (G : GG) : List (ClassId × FieldType) := [(G.2.2.2.2 0, .int), (G.2.2.2.2 1, .long), (G.2.2.2.2 2, .byte), (G.2.2.2.2 3, .boolean), (G.2.2.2.2 4, .object (ecn 104)), (G.2.2.2.2 5, .object (ecn 105)), (G.2.2.2.2 6, .object (ecn 106)), (G.2.2.2.2 7, .object (ecn 107))]
/-- a long cell -/
def wide (kd : Kd) (i : Nat) : Bool := if kd.1 < 100 then fty kd.1 i == 1 else kd.1 == 101
/-- a cell that holds references -/
def refc (kd : Kd) (i : Nat) : Bool := if kd.1 < 100 then fty kd.1 i == 2 else decide (104 ≤ kd.1)
def okc (kd : Kd) (i : Nat) (x : Int) : Prop := if wide kd i = true then in64 x else if refc kd i = true then True else in32 x
def okm (sh : List Kd) (m : Mm) : Prop := ∀ (o : Nat) (kd : Kd), sh[o]? = some kd → ∀ i, i < kd.2 → okc kd i (m o i)
def okv (v : AV) : Prop := (v.1 = 0 → in32 v.2) ∧ (v.1 = 1 → in64 v.2)
def okS (S : List AV) : Prop := ∀ v ∈ S, okv v
def lvl (G : GG) (L : List AV) : List (Nat × Value) := (L.zipIdx.filter (fun q => q.1.1 != 9)).map (fun q => (q.2, tv G q.1))
def LvOk (G : GG) (ls : Array Slot) (nL : Nat) (L : List AV) : Prop := L.length = nL ∧ lv_has ls nL (lvl G L)
def tot (sh : List Kd) : Nat := (sh.map (fun k => k.2)).sum
theorem adr_small (G : GG) {k : Nat} (h0 : 0 < k) (h : k < 1000000) : adr G k = G.1 + (k - 1) := by
  unfold adr
  rw [if_neg (by omega), if_neg (by omega)]
theorem wsO_get (G : GG) {sh : List Kd} (m : Mm) {o : Nat} {kd : Kd} (h0 : 0 < o) (h : sh[o]? = some kd) : (wsO G sh m)[o - 1]? = some (G.1 + (o - 1), ent G kd (m o)) := by
  have hl : o < sh.length := (List.getElem?_eq_some_iff.mp h).1
  unfold wsO
  rw [List.getElem?_map, List.getElem?_range (by omega)]
  rw [Option.map_some, show o - 1 + 1 = o by omega, List.getD_eq_getElem?_getD, h]
  rfl
theorem wsO_len (G : GG) (sh : List Kd) (m : Mm) : (wsO G sh m).length = sh.length - 1 := by
  simp [wsO]
theorem wsO_D (G : GG) (sh : List Kd) (m : Mm) : va_D (fun q => G.1 ≤ q) (wsO G sh m) := by
  have key : ∀ (k : Nat) (q : Nat × va_E), (wsO G sh m)[k]? = some q → q.1 = G.1 + k := by
    intro k q h
    unfold wsO at h
    rw [List.getElem?_map] at h
    cases hr : (List.range (sh.length - 1))[k]? with
    | none => rw [hr] at h; cases h
    | some i =>
      rw [hr] at h
      obtain ⟨h1, h2⟩ := List.getElem?_eq_some_iff.mp hr
      rw [List.getElem_range] at h2
      subst h2
      cases h
      rfl
  refine ⟨fun i j p q hp hq e => ?_, fun k q h => ?_⟩
  · have h1 := key i p hp
    have h2 := key j q hq
    omega
  · have h1 := key k q h
    show G.1 ≤ q.1
    omega
/-- writing a cell: the world's list with its entry set -/
theorem wsO_set (G : GG) {sh : List Kd} (m : Mm) {o i : Nat} {v : Int} {kd : Kd} {e : va_E} (h0 : 0 < o) (h : sh[o]? = some kd) (he : e = ent G kd (nu_up m o i v o)) :
    (wsO G sh m).set (o - 1) (G.1 + (o - 1), e) = wsO G sh (nu_up m o i v) := by
  subst he
  have hl : o < sh.length := (List.getElem?_eq_some_iff.mp h).1
  apply List.ext_getElem?
  intro k
  rw [List.getElem?_set]
  by_cases hk : o - 1 = k
  · subst hk
    rw [if_pos rfl, if_pos (by rw [wsO_len]; omega), wsO_get G _ h0 h]
  · rw [if_neg hk]
    unfold wsO
    rw [List.getElem?_map, List.getElem?_map]
    cases hr : (List.range (sh.length - 1))[k]? with
    | none => rfl
    | some i2 =>
      obtain ⟨h1, h2⟩ := List.getElem?_eq_some_iff.mp hr
      rw [List.getElem_range] at h2
      subst h2
      have hne : k + 1 ≠ o := by omega
      have e2 : nu_up m o i v (k + 1) = m (k + 1) := by
        funext j
        simp [nu_up, hne]
      simp only [Option.map_some, e2]
theorem fty_col (G : GG) (ci N : Nat) (f : Nat → Int) {b : Nat} (hb : b < N) : ((List.range N).map (fun j => fv G (fty ci j) (f j)))[b]? = some (fv G (fty ci b) (f b)) := by
  rw [List.getElem?_map, List.getElem?_range hb]; rfl
theorem fty_set (G : GG) (ci N : Nat) (m : Mm) (o : Nat) {b : Nat} {v : Int} {x : Value} (hb : b < N) (hx : x = fv G (fty ci b) v) :
    ((List.range N).map (fun j => fv G (fty ci j) (m o j))).set b x = (List.range N).map (fun j => fv G (fty ci j) (nu_up m o b v o j)) := by
  subst hx
  apply List.ext_getElem?
  intro k
  rw [List.getElem?_set, List.getElem?_map, List.getElem?_map]
  by_cases hk : b = k
  · subst hk
    rw [if_pos rfl, if_pos (by simpa using hb), List.getElem?_range hb]
    simp [nu_up]
  · rw [if_neg hk]
    cases hr : (List.range N)[k]? with
    | none => rfl
    | some i2 =>
      obtain ⟨h1, h2⟩ := List.getElem?_eq_some_iff.mp hr
      rw [List.getElem_range] at h2
      subst h2
      have : k ≠ b := fun q => hk q.symm
      simp [nu_up, this]
theorem okm_up {sh : List Kd} {m : Mm} {o i : Nat} {v : Int} (h : okm sh m) (hv : ∀ kd, sh[o]? = some kd → okc kd i v) : okm sh (nu_up m o i v) := by
  intro p kd hp j hj
  unfold nu_up
  by_cases h1 : p = o
  · subst h1
    by_cases h2 : j = i
    · subst h2
      rw [if_pos rfl, if_pos rfl]
      exact hv kd hp
    · rw [if_pos rfl, if_neg h2]
      exact h p kd hp j hj
  · rw [if_neg h1]
    exact h p kd hp j hj
/-- a new cell behind the others -/
theorem wsO_push (G : GG) (sh : List Kd) (m : Mm) (kd : Kd) (f : Nat → Int) (h1 : 1 ≤ sh.length) : wsO G (sh ++ [kd]) (fun p j => if p = sh.length then f j else m p j) = wsO G sh m ++ [(G.1 + (sh.length - 1), ent G kd f)] := by
  apply List.ext_getElem?
  intro k
  by_cases hk : k < sh.length - 1
  · rw [List.getElem?_append_left (by rw [wsO_len]; exact hk)]
    unfold wsO
    rw [List.getElem?_map, List.getElem?_map, List.getElem?_range (by simp; omega), List.getElem?_range hk]
    have e1 : (sh ++ [kd]).getD (k + 1) (0, 0) = sh.getD (k + 1) (0, 0) := by
      rw [List.getD_eq_getElem?_getD, List.getD_eq_getElem?_getD, List.getElem?_append_left (by omega)]
    have e2 : (fun j => if k + 1 = sh.length then f j else m (k + 1) j) = m (k + 1) := by
      funext j
      rw [if_neg (by omega)]
    simp only [Option.map_some, e1, e2]
  · by_cases hk2 : k = sh.length - 1
    · subst hk2
      rw [List.getElem?_append_right (by rw [wsO_len]; omega), wsO_len, Nat.sub_self]
      unfold wsO
      rw [List.getElem?_map, List.getElem?_range (by simp; omega)]
      have e1 : (sh ++ [kd]).getD (sh.length - 1 + 1) (0, 0) = kd := by
        rw [List.getD_eq_getElem?_getD, show sh.length - 1 + 1 = sh.length by omega, List.getElem?_append_right (by omega), Nat.sub_self]
        rfl
      have e2 : (fun j => if sh.length - 1 + 1 = sh.length then f j else m (sh.length - 1 + 1) j) = f := by
        funext j
        rw [if_pos (by omega)]
      simp only [Option.map_some, e1, e2]
      rfl
    · rw [List.getElem?_eq_none (by rw [wsO_len]; simp; omega), List.getElem?_eq_none (by rw [List.length_append, wsO_len]; simp; omega)]
theorem okm_push {sh : List Kd} {m : Mm} {kd : Kd} {f : Nat → Int} (h : okm sh m) (hf : ∀ i, i < kd.2 → okc kd i (f i)) : okm (sh ++ [kd]) (fun p j => if p = sh.length then f j else m p j) := by
  intro o k ho i hi
  by_cases h1 : o < sh.length
  · rw [List.getElem?_append_left h1] at ho
    show okc k i (if o = sh.length then f i else m o i)
    rw [if_neg (by omega)]
    exact h o k ho i hi
  · have h2 : o < (sh ++ [kd]).length := (List.getElem?_eq_some_iff.mp ho).1
    have h3 : o = sh.length := by
      simp at h2
      omega
    subst h3
    rw [List.getElem?_append_right (by omega), Nat.sub_self] at ho
    cases ho
    show okc kd i (if sh.length = sh.length then f i else m sh.length i)
    rw [if_pos rfl]
    exact hf i hi
theorem tot_push (sh : List Kd) (kd : Kd) : tot (sh ++ [kd]) = tot sh + kd.2 := by
  simp [tot]
/-! locals -/
theorem lvl_mem {G : GG} {L : List AV} {i : Nat} {v : Value} : (i, v) ∈ lvl G L ↔ ∃ a : AV, L[i]? = some a ∧ a.1 ≠ 9 ∧ v = tv G a := by
  unfold lvl
  rw [List.mem_map]
  constructor
  · rintro ⟨⟨a, k⟩, h1, h2⟩
    rw [List.mem_filter] at h1
    obtain ⟨h3, h4⟩ := h1
    rw [List.mem_zipIdx_iff_getElem?] at h3
    simp only [Prod.mk.injEq] at h2
    obtain ⟨rfl, rfl⟩ := h2
    refine ⟨a, h3, ?_, rfl⟩
    intro q
    rw [q] at h4
    exact absurd h4 (by decide)
  · rintro ⟨a, h1, h2, rfl⟩
    refine ⟨(a, i), ?_, rfl⟩
    rw [List.mem_filter]
    refine ⟨?_, ?_⟩
    · rw [List.mem_zipIdx_iff_getElem?]
      exact h1
    · simpa using h2
theorem lv_read {G : GG} {ls : Array Slot} {nL : Nat} {L : List AV} (h : LvOk G ls nL L) {i t : Nat} {x : Int} (hg : gl L t i = some x) (ht : t ≠ 9) : ls[i]? = some (.val (tv G (t, x))) := by
  unfold gl at hg
  split at hg
  · rename_i v hv
    split at hg
    · rename_i hv1
      cases hg
      exact h.2.2.2 (i, tv G (t, v.2)) (lvl_mem.mpr ⟨v, hv, by rw [hv1]; exact ht, by rw [← hv1]⟩)
    · cases hg
  · cases hg
theorem cat_tv (G : GG) (v : AV) : (tv G v).category = ctg v := by
  unfold tv ctg
  by_cases h0 : v.1 = 0
  · simp [h0, Value.category]
  · by_cases h1 : v.1 = 1
    · simp [h1, Value.category]
    · by_cases h2 : v.1 = 2 <;> simp [h0, h1, h2, Value.category]
theorem csum_tv (G : GG) (S : List AV) : (List.map (fun v => v.category) (S.map (tv G))).sum = csum S := by
  unfold csum
  rw [List.map_map]
  congr 1
  apply List.map_congr_left
  intro v _
  exact cat_tv G v
theorem st1_len (L : List AV) (i : Nat) (v : AV) : (st1 L i v).length = L.length := by
  unfold st1
  rw [List.length_set]
  cases i with
  | zero => rfl
  | succ k =>
    unfold kl1
    dsimp only
    split
    · split <;> simp
    · rfl
theorem st1_get {L : List AV} {i : Nat} {v a : AV} {k : Nat} (h : (st1 L i v)[k]? = some a) (ha : a.1 ≠ 9) (hv : v.1 ≠ 9) : (k = i ∧ a = v) ∨ (k ≠ i ∧ L[k]? = some a ∧ ¬ (k + 1 = i ∧ a.1 = 1)) := by
  unfold st1 at h
  rw [List.getElem?_set] at h
  by_cases hk : i = k
  · generalize kl1 L i = L' at h
    rw [if_pos hk] at h
    by_cases hl : i < L'.length
    · rw [if_pos hl] at h; cases h; exact Or.inl ⟨hk.symm, rfl⟩
    · rw [if_neg hl] at h; cases h
  · rw [if_neg hk] at h
    refine Or.inr ⟨fun q => hk q.symm, ?_⟩
    unfold kl1 at h
    cases i with
    | zero => exact ⟨h, by omega⟩
    | succ n =>
      dsimp only at h
      cases hn : L[n]? with
      | none =>
        rw [hn] at h
        dsimp only at h
        refine ⟨h, ?_⟩
        rintro ⟨h1, h2⟩
        obtain rfl : k = n := by omega
        rw [hn] at h; cases h
      | some q =>
        rw [hn] at h
        dsimp only at h
        by_cases hq : q.1 = 1
        · rw [if_pos hq, List.getElem?_set] at h
          by_cases hnk : n = k
          · subst hnk
            rw [if_pos rfl] at h
            split at h
            · cases h; exact absurd rfl ha
            · cases h
          · rw [if_neg hnk] at h
            exact ⟨h, fun z => hnk (by omega)⟩
        · rw [if_neg hq] at h
          refine ⟨h, ?_⟩
          rintro ⟨h1, h2⟩
          obtain rfl : k = n := by omega
          rw [hn] at h
          cases h
          exact hq h2
theorem tag9 {G : GG} {a : AV} : (tv G a).category = 2 ↔ a.1 = 1 := by
  rw [cat_tv]
  unfold ctg
  split <;> simp_all
/-- a store of a value of one word -/
theorem lv_st1 {G : GG} {ls : Array Slot} {nL : Nat} {L : List AV} {i : Nat} {v : AV} (hl : L.length = nL) (hv : v.1 ≠ 9)
    (h : lv_has ls nL ((i, tv G v) :: (lvl G L).filter (fun q => !(q.1 == i) && !(q.1 + 1 == i && q.2.category == 2)))) : LvOk G ls nL (st1 L i v) := by
  refine ⟨by rw [st1_len]; exact hl, h.1, h.2.1, fun q hq => ?_⟩
  obtain ⟨k, w⟩ := q
  obtain ⟨a, h1, h2, rfl⟩ := lvl_mem.mp hq
  refine h.2.2 _ ?_
  rcases st1_get h1 h2 hv with ⟨rfl, rfl⟩ | ⟨h3, h4, h5⟩
  · exact List.mem_cons_self
  · refine List.mem_cons_of_mem _ (List.mem_filter.mpr ⟨lvl_mem.mpr ⟨a, h4, h2, rfl⟩, ?_⟩)
    simp only [Bool.and_eq_true, Bool.not_eq_true', beq_eq_false_iff_ne, ne_eq, Bool.and_eq_false_iff]
    refine ⟨h3, ?_⟩
    by_cases h6 : k + 1 = i
    · exact Or.inr (fun q => h5 ⟨h6, tag9.mp q⟩)
    · exact Or.inl h6
/-- a store of a long -/
theorem lv_st2 {G : GG} {ls : Array Slot} {nL : Nat} {L : List AV} {i : Nat} {v : AV} (hl : L.length = nL) (hv : v.1 ≠ 9)
    (h : lv_has ls nL ((i, tv G v) :: (lvl G L).filter (fun q => !(q.1 == i) && (!(q.1 == i + 1) && !(q.1 + 1 == i && q.2.category == 2))))) : LvOk G ls nL (st2 L i v) := by
  refine ⟨by unfold st2; rw [List.length_set, st1_len]; exact hl, h.1, h.2.1, fun q hq => ?_⟩
  obtain ⟨k, w⟩ := q
  obtain ⟨a, h1, h2, rfl⟩ := lvl_mem.mp hq
  refine h.2.2 _ ?_
  unfold st2 at h1
  rw [List.getElem?_set] at h1
  by_cases hk : i + 1 = k
  · rw [if_pos hk] at h1
    split at h1
    · cases h1; exact absurd rfl h2
    · cases h1
  · rw [if_neg hk] at h1
    rcases st1_get h1 h2 hv with ⟨rfl, rfl⟩ | ⟨h3, h4, h5⟩
    · exact List.mem_cons_self
    · refine List.mem_cons_of_mem _ (List.mem_filter.mpr ⟨lvl_mem.mpr ⟨a, h4, h2, rfl⟩, ?_⟩)
      simp only [Bool.and_eq_true, Bool.not_eq_true', beq_eq_false_iff_ne, ne_eq, Bool.and_eq_false_iff]
      refine ⟨h3, fun z => hk z.symm, ?_⟩
      by_cases h6 : k + 1 = i
      · exact Or.inr (fun q => h5 ⟨h6, tag9.mp q⟩)
      · exact Or.inl h6
theorem okS_st1 {L : List AV} {i : Nat} {v : AV} (h : okS L) (hv : okv v) : okS (st1 L i v) := by
  have ok9 : okv (9, 0) := ⟨fun q => absurd q (by decide), fun q => absurd q (by decide)⟩
  intro a ha
  unfold st1 at ha
  have key : ∀ L' : List AV, okS L' → okS (L'.set i v) := by
    intro L' h' a ha
    rcases List.mem_or_eq_of_mem_set ha with q | q
    · exact h' a q
    · rw [q]; exact hv
  refine key _ ?_ a ha
  unfold kl1
  cases i with
  | zero => exact h
  | succ k =>
    dsimp only
    split
    · split
      · intro a ha
        rcases List.mem_or_eq_of_mem_set ha with q | q
        · exact h a q
        · rw [q]; exact ok9
      · exact h
    · exact h
theorem okS_st2 {L : List AV} {i : Nat} {v : AV} (h : okS L) (hv : okv v) : okS (st2 L i v) := by
  have ok9 : okv (9, 0) := ⟨fun q => absurd q (by decide), fun q => absurd q (by decide)⟩
  intro a ha
  unfold st2 at ha
  rcases List.mem_or_eq_of_mem_set ha with q | q
  · exact okS_st1 h hv a q
  · rw [q]; exact ok9
theorem okS_gl {L : List AV} (h : okS L) {t i : Nat} {x : Int} (hg : gl L t i = some x) : okv (t, x) := by
  unfold gl at hg
  split at hg
  · rename_i v hv
    split at hg
    · rename_i hv1
      cases hg
      have := h v (List.mem_of_getElem? hv)
      rw [← hv1]
      exact this
    · cases hg
  · cases hg
theorem pp_some {t : Nat} {S S' : List AV} {x : Int} (h : pp t S = some (x, S')) : S = (t, x) :: S' := by
  unfold pp at h
  split at h
  · split at h
    · rename_i v S2 hv
      cases h
      rw [← hv]
    · cases h
  · cases h
theorem okS_cons {v : AV} {S : List AV} (hv : okv v) (h : okS S) : okS (v :: S) := by
  intro a ha
  rcases List.mem_cons.mp ha with q | q
  · rw [q]; exact hv
  · exact h a q
theorem okS_tl {v : AV} {S : List AV} (h : okS (v :: S)) : okS S := fun a ha => h a (List.mem_cons_of_mem _ ha)
theorem okS_hd {v : AV} {S : List AV} (h : okS (v :: S)) : okv v := h v List.mem_cons_self
theorem ok_i {x : Int} (h : in32 x) : okv (0, x) := ⟨fun _ => h, fun q => absurd (show (0 : Nat) = 1 from q) (by decide)⟩
theorem ok_l {x : Int} (h : in64 x) : okv (1, x) := ⟨fun q => absurd (show (1 : Nat) = 0 from q) (by decide), fun _ => h⟩
theorem ok_r (x : Int) : okv (2, x) := ⟨fun q => absurd (show (2 : Nat) = 0 from q) (by decide), fun q => absurd (show (2 : Nat) = 1 from q) (by decide)⟩
/-! lengths of instructions -/
def ilen (i : Instr) : Nat := if (op0 i).isSome then 1 else if (opu2 i).isSome then 3 else if (opu1 i).isSome then 2 else if (ops2 i).isSome then 3 else match i with
  | .iconst _ => 1
  | .bipush _ => 2
  | .iinc _ _ => 3
  | .newarray _ => 2
  | _ => 0
theorem fdc_len {cc : ByteArray} {pc : Nat} {l : List UInt8} {i : Instr} {n : Nat} (h : fdc cc pc l i n = true) (h0 : ilen i ≠ 0) : n = ilen i := by
  unfold fdc at h
  unfold ilen at h0 ⊢
  split at h
  · rename_i b hb
    rw [hb]
    split at h
    · simp only [Bool.and_eq_true, beq_iff_eq] at h
      simp [h.2]
    · cases h
  · rename_i hb
    rw [hb] at h0 ⊢
    split at h
    · rename_i q hq
      rw [hq]
      split at h
      · simp only [Bool.and_eq_true, beq_iff_eq] at h
        simp [h.2]
      · cases h
    · rename_i hq
      rw [hq] at h0 ⊢
      split at h
      · rename_i q1 hq1
        rw [hq1]
        split at h
        · simp only [Bool.and_eq_true, beq_iff_eq] at h
          simp [h.2]
        · cases h
      · rename_i hq1
        rw [hq1] at h0 ⊢
        split at h
        · rename_i q2 hq2
          rw [hq2]
          split at h
          · simp only [Bool.and_eq_true, beq_iff_eq] at h
            simp [h.2]
          · cases h
        · rename_i hq2
          rw [hq2] at h0 ⊢
          split at h
          · split at h
            · simp only [Bool.and_eq_true, beq_iff_eq] at h
              simp [h.1]
            · cases h
          · split at h
            · simp only [Bool.and_eq_true, beq_iff_eq] at h
              simp [h.2]
            · cases h
          · split at h
            · simp only [Bool.and_eq_true, beq_iff_eq] at h
              simp [h.2]
            · cases h
          · split at h
            · simp only [Bool.and_eq_true, beq_iff_eq] at h
              simp [h.1.2]
            · cases h
          · simp at h0
