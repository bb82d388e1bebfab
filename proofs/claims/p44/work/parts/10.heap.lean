/-! objects and arrays -/
section SH
variable {p : Program} {l : Launch} {e : Env} {R : Room} {s : State} {m : MethodId} {args : Array Value} {below : List Frame} {meth : Method} {c : Code} {H : Heap} {locs : List Loc} {cells slots : Nat} {Q : State → Prop}
variable {G : GG} {M : MR} {pc nx b cw w : Nat} {a : Int} {L S : List AV} {sh : List Kd} {mm : Mm} {ls : Array Slot} {q : St5} {k0 s0 : Nat}
theorem ent_obj (G : GG) {kd : Kd} (f : Nat → Int) (h : kd.1 < 100) : ent G kd f = .inr (kd.1, (List.range kd.2).map (fun j => fv G (fty kd.1 j) (f j))) := if_pos h
theorem ent_int (G : GG) {n : Nat} (f : Nat → Int) : ent G (100, n) f = .inl (G.2.2.2.2 0, n, .inl (fun j => Int32.ofInt (f j))) := rfl
theorem ent_long (G : GG) {n : Nat} (f : Nat → Int) : ent G (101, n) f = .inl (G.2.2.2.2 1, n, .inr (.inl (fun j => Int64.ofInt (f j)))) := rfl
theorem ent_byte (G : GG) {n : Nat} (f : Nat → Int) : ent G (102, n) f = .inl (G.2.2.2.2 2, n, .inl (fun j => Int32.ofInt (f j))) := rfl
theorem ent_bool (G : GG) {n : Nat} (f : Nat → Int) : ent G (103, n) f = .inl (G.2.2.2.2 3, n, .inl (fun j => Int32.ofInt (f j))) := rfl
theorem ent_ref (G : GG) {kd : Kd} (f : Nat → Int) (h : 104 ≤ kd.1) : ent G kd f = .inl (G.2.2.2.2 (kd.1 - 100), kd.2, .inr (.inr (.inr (.inr (fun j => if f j < 0 then none else some (adr G (f j).toNat)))))) := by
  unfold ent
  rw [if_neg (by omega), if_neg (by omega), if_neg (by omega)]
theorem upd_i {m : Mm} {o i : Nat} {v : Int} : upd (fun j => Int32.ofInt (m o j)) i (Int32.ofInt v) = fun j => Int32.ofInt (nu_up m o i v o j) := by
  funext j
  unfold upd nu_up
  by_cases h : j = i
  · rw [if_pos h, if_pos rfl, if_pos h]
  · rw [if_neg h, if_pos rfl, if_neg h]
theorem upd_l {m : Mm} {o i : Nat} {v : Int} : vp_updL (fun j => Int64.ofInt (m o j)) i (Int64.ofInt v) = fun j => Int64.ofInt (nu_up m o i v o j) := by
  funext j
  unfold vp_updL nu_up
  by_cases h : j = i
  · rw [if_pos h, if_pos rfl, if_pos h]
  · rw [if_neg h, if_pos rfl, if_neg h]
theorem upd_r {G : GG} {m : Mm} {o i : Nat} {v : Int} (hv : 0 ≤ v) : va_up (fun j => if m o j < 0 then none else some (adr G (m o j).toNat)) i (some (adr G v.toNat)) = fun j => if nu_up m o i v o j < 0 then none else some (adr G (nu_up m o i v o j).toNat) := by
  funext j
  unfold va_up nu_up
  by_cases h : j = i
  · rw [if_pos h, if_pos rfl, if_pos h, if_neg (by omega)]
  · rw [if_neg h, if_pos rfl, if_neg h]
/-- the world behind a write -/
theorem HR_up {o i : Nat} {v : Int} {kd : Kd} {en : va_E} {H1 : Heap} {locs1 : List Loc} (hH : HR G sh mm s H locs) (h0 : 0 < o) (ho : sh[o]? = some kd) (he : en = ent G kd (nu_up mm o i v o)) (hv : okc kd i v)
    (hP : va_P G.2.2.2.1 cls ((wsO G sh mm).set (o - 1) (G.1 + (o - 1), en)) H1) (hS : va_S (AZ G) s.heap H1 locs1) : HR G sh (nu_up mm o i v) s H1 locs1 := by
  obtain ⟨-, -, h4, h5, h6, h7⟩ := hH
  refine ⟨?_, hS, h4, okm_up h5 (fun kd' hk => ?_), h6.to rfl (fun j => ?_), h7⟩
  · rw [wsO_set G mm h0 ho he] at hP
    exact hP
  · cases ho.symm.trans hk
    exact hv
  · unfold nu_up
    rw [if_neg (by omega)]
theorem ref_adr {o : Int} (h0 : 0 < o) {kd : Kd} (ho : sh[o.toNat]? = some kd) (hl : sh.length ≤ 1000000) : tv G (2, o) = .ref (G.1 + (o.toNat - 1)) := by
  show Value.ref (adr G o.toNat) = _
  have := (List.getElem?_eq_some_iff.mp ho).1
  rw [adr_small G (by omega) (by omega)]
theorem fldOk_of {own : String} {i : Nat} {a : Int} {b cw w : Nat} (h : fldOk own i a b cw w = true) : ∃ (C : String × Nat × Nat × List CF) (f : CF), clF[a.toNat]? = some C ∧ C.2.2.2[b]? = some f ∧ cw % 10 = f.2.2.2.1 ∧ (Cond.fieldLink own i C.1 f.1 f.2.1 ∈ lw_tbl ∨ (cw / 10 = 1 ∧ Cond.fieldLinkNest own i C.1 f.1 f.2.1 "NeckRider" ∈ lw_tbl)) := by
  unfold fldOk at h
  split at h
  · rename_i C hC
    split at h
    · rename_i f hf
      simp only [Bool.and_eq_true, beq_iff_eq] at h
      refine ⟨C, f, hC, hf, h.1.2, ?_⟩
      have h2 := wAt_in h.2
      split at h2
      · rename_i hn
        exact Or.inr ⟨hn, h2⟩
      · exact Or.inl h2
    · cases h
  · cases h
theorem okc_ref {kd : Kd} {i : Nat} {v : Int} (h : 104 ≤ kd.1) : okc kd i v := by
  have h1 : ¬ kd.1 < 100 := by omega
  have h2 : ¬ kd.1 = 101 := by omega
  simp [okc, wide, refc, h1, h2, h]

theorem s_getfield {n : Nat} : SG p l e R s m args below meth c H locs cells slots Q G M pc (.getfield n, nx, a, b, cw, w) L S sh mm ls q k0 s0 := by
  intro hC hE hO hr hs hL hLo hSo hH hc1 hc2 hR hk
  obtain ⟨hdg, hnx, hr⟩ := row_dg (n := 2) hr rfl
  change decode M.2.1 pc = .ok (_, 3) at hdg
  change nx = pc + 3 at hnx
  subst hnx
  simp only [stp, Option.bind_eq_bind, Option.bind_eq_some_iff, Prod.exists] at hs
  obtain ⟨o, S1, h1, k1, k2, h2, hs⟩ := hs
  obtain rfl := pp_some h1
  split at hs
  rotate_left
  · simp at hs
  · rename_i hcond
    obtain ⟨g0, g1, g2, g3⟩ := hcond
    have hW := wsO_get G mm (o := o.toNat) (by omega) h2
    have hr2 := ref_adr (G := G) g0 h2 hH.2.2.2.2.2
    obtain ⟨C, f, hC1, hf, hcw, hwd⟩ := fldOk_of (show fldOk M.1.cls n a b cw w = true from hr)
    rw [← g1] at hC1
    have hfl := fty_at hC1 hf
    have hN : b < C.2.2.2.length := (List.getElem?_eq_some_iff.mp hf).1
    rw [ent_obj G (kd := (k1, k2)) _ g2] at hW
    dsimp only at hW
    have hcol := fty_col G k1 k2 (mm o.toNat) g3
    rw [hfl, ← hcw] at hcol
    have hst : List.map (tv G) ((2, o) :: S1) = .ref (G.1 + (o.toNat - 1)) :: S1.map (tv G) := by rw [List.map_cons, hr2]
    rw [hst]
    have key : ∀ v : AV, tv G v = fv G (cw % 10) (mm o.toNat b) → okv v → q = (pc + 3, L, v :: S1, sh, mm) → W p l e R s m args below meth c H locs cells slots Q (F0 m pc ls (.ref (G.1 + (o.toNat - 1)) :: S1.map (tv G))) := by
      intro v hv hov hq
      subst hq
      rw [← hv] at hcol
      have hk2 := hk _ _ _ _ _ hL hLo (okS_cons hov (okS_tl hSo)) hH hc1 hc2
      rcases hwd with hwd | hwd
      · exact va_get hC.1 hC.2.1 hC.2.2.2.2.1 (cl_hin hC1) hC.2.2.2.1 hE.1 hH.1 _ hW (cls_at hC1) b hN (by rw [mkT_at hf]; exact hC.2.2.2.2.1 _ (lwG_in hwd rfl)) (by rw [mkT_at hf]; exact fun _ h9 => h9) hcol hdg hk2
      · exact va_getN hC.1 hC.2.1 hC.2.2.2.2.1 (cl_hin hC1) hC.2.2.2.1 hE.1 hH.1 _ hW (cls_at hC1) b hN (by rw [mkT_at hf]; exact va_Nw.use rfl (hE.2.2.1 _ _ _ _ _ _ hwd.2)) (by rw [mkT_at hf]; exact fun _ h9 => h9) hcol hdg hk2
    split at hs
    · rename_i hc2'
      split at hs
      · cases hs
      · rename_i hneg
        simp only [Option.some.injEq] at hs
        refine key (2, mm o.toNat b) ?_ (ok_r _) hs.symm
        unfold fv
        rw [hc2', if_neg (by decide), if_pos rfl, if_neg hneg]
        rfl
    · rename_i hc2'
      simp only [Option.some.injEq] at hs
      have hok := hH.2.2.2.1 _ _ h2 b g3
      unfold okc wide refc at hok
      rw [if_pos g2, if_pos g2, hfl, ← hcw] at hok
      by_cases hc1' : cw % 10 = 1
      · rw [if_pos hc1'] at hs
        refine key (1, mm o.toNat b) (by unfold fv; rw [if_pos hc1']; rfl) (ok_l ?_) hs.symm
        rw [if_pos (by rw [hc1']; rfl)] at hok
        exact hok
      · rw [if_neg hc1'] at hs
        refine key (0, mm o.toNat b) (by unfold fv; rw [if_neg hc1', if_neg hc2']; rfl) (ok_i ?_) hs.symm
        rw [if_neg (by simpa using hc1'), if_neg (by simpa using hc2')] at hok
        exact hok
theorem s_putfield {n : Nat} : SG p l e R s m args below meth c H locs cells slots Q G M pc (.putfield n, nx, a, b, cw, w) L S sh mm ls q k0 s0 := by
  intro hC hE hO hr hs hL hLo hSo hH hc1 hc2 hR hk
  obtain ⟨hdg, hnx, hr⟩ := row_dg (n := 2) hr rfl
  change decode M.2.1 pc = .ok (_, 3) at hdg
  change nx = pc + 3 at hnx
  subst hnx
  simp only [stp, Option.bind_eq_bind, Option.bind_eq_some_iff, Prod.exists] at hs
  unfold rowL at hr
  simp only [Bool.and_eq_true] at hr
  obtain ⟨hr, hpo⟩ := hr
  obtain ⟨v, S1, h1, o, S2, h2, k1, k2, h3, hs⟩ := hs
  obtain rfl := pp_some h1
  obtain rfl := pp_some h2
  split at hs
  rotate_left
  · simp at hs
  · rename_i hcond
    obtain ⟨g0, g1, g2, g3, g4, hneg⟩ := hcond
    simp only [Option.some.injEq] at hs
    subst hs
    have hW := wsO_get G mm (o := o.toNat) (by omega) h3
    have hr2 := ref_adr (G := G) g0 h3 hH.2.2.2.2.2
    obtain ⟨C, f, hC1, hf, hcw, hwd⟩ := fldOk_of (show fldOk M.1.cls n a b cw w = true from hr)
    rw [← g1] at hC1
    have hfl := fty_at hC1 hf
    have hN : b < C.2.2.2.length := (List.getElem?_eq_some_iff.mp hf).1
    rw [ent_obj G (kd := (k1, k2)) _ g2] at hW
    dsimp only at hW
    have hst : List.map (tv G) ((if cw % 10 = 2 then 2 else if cw % 10 = 1 then 1 else 0, v) :: (2, o) :: S2) = tv G (if cw % 10 = 2 then 2 else if cw % 10 = 1 then 1 else 0, v) :: .ref (G.1 + (o.toNat - 1)) :: S2.map (tv G) := by rw [List.map_cons, List.map_cons, hr2]
    rw [hst]
    have hov := okS_hd hSo
    have hcd := cl_code hC1 hN
    have hh : ∃ x : Value, tv G (if cw % 10 = 2 then 2 else if cw % 10 = 1 then 1 else 0, v) = x ∧ (0 ≤ v ∨ cw % 10 ≠ 2 → x = fv G (fty k1 b) v) ∧ narrow (fT C b) x = x ∧ fits (fT C b) x = true ∧ okc (k1, k2) b v := by
      rw [hfl] at hcd
      rw [← hcw] at hcd
      unfold okc wide refc
      rw [if_pos g2, if_pos g2, hfl, ← hcw]
      rcases hcd with ⟨e1, e2⟩ | ⟨e1, e2⟩ | ⟨e1, e2⟩ | ⟨e1, e2⟩
      · rw [e1] at hov ⊢
        rw [e2]
        exact ⟨_, rfl, fun _ => rfl, rfl, rfl, hov.1 rfl⟩
      · rw [e1] at hov ⊢
        rw [e2]
        exact ⟨_, rfl, fun _ => rfl, rfl, rfl, hov.2 rfl⟩
      · rw [e2]
        have g5 := g4 e1
        rw [e1] at hov ⊢
        refine ⟨_, rfl, fun _ => rfl, ?_, ?_, hov.1 rfl⟩
        · rcases g5 with rfl | rfl <;> rfl
        · rcases g5 with rfl | rfl <;> rfl
      · rw [e1]
        refine ⟨_, rfl, fun h => ?_, ?_, ?_, trivial⟩
        · show Value.ref (adr G v.toNat) = (if (2 : Nat) = 1 then Value.long (Int64.ofInt v) else if (2 : Nat) = 2 then (if v < 0 then Value.null else Value.ref (adr G v.toNat)) else Value.int (Int32.ofInt v))
          rw [if_neg (show ¬ (2 : Nat) = 1 by decide), if_pos rfl, if_neg (fun z => h.elim (fun z2 => absurd z (by omega)) (fun z2 => z2 rfl))]
        · rcases e2 with ⟨z, e2⟩ | ⟨z, e2⟩ <;> rw [e2] <;> rfl
        · rcases e2 with ⟨z, e2⟩ | ⟨z, e2⟩ <;> rw [e2] <;> rfl
    obtain ⟨x, hx1, hx2, hx3, hx4, hx5⟩ := hh
    unfold putOk at hpo
    rw [← g1, hC1] at hpo
    dsimp only at hpo
    rw [hf] at hpo
    dsimp only at hpo
    have hini : f.2.2.1 = true → meth.name = "<init>" ∧ C.1 = M.1.cls := by
      intro z
      rw [if_pos z] at hpo
      simp only [Bool.and_eq_true, decide_eq_true_eq] at hpo
      exact ⟨(hC.2.2.2.2.2 hpo.1.1).trans hpo.1.1, hpo.1.2⟩
    have hnf : cw / 10 = 1 → f.2.2.1 = false := by
      intro z
      cases hz : f.2.2.1 with
      | false => rfl
      | true =>
        rw [if_pos hz] at hpo
        simp only [Bool.and_eq_true, decide_eq_true_eq] at hpo
        omega
    rw [hx1]
    have hv0 : 0 ≤ v ∨ cw % 10 ≠ 2 := by
      by_cases z : cw % 10 = 2
      · exact Or.inl (hneg z)
      · exact Or.inr z
    have hx2 := hx2 hv0
    have hl : b < ((List.range k2).map (fun j => fv G (fty k1 j) (mm o.toNat j))).length := by simpa using g3
    have fin : ∀ (H1 : Heap) (locs1 : List Loc), va_P G.2.2.2.1 cls ((wsO G sh mm).set (o.toNat - 1) (G.1 + (o.toNat - 1), .inr (k1, ((List.range k2).map (fun j => fv G (fty k1 j) (mm o.toNat j))).set b x))) H1 → va_D (AZ G) ((wsO G sh mm).set (o.toNat - 1) (G.1 + (o.toNat - 1), .inr (k1, ((List.range k2).map (fun j => fv G (fty k1 j) (mm o.toNat j))).set b x))) → va_S (AZ G) s.heap H1 locs1 → W p l e R s m args below meth c H1 locs1 cells slots Q (F0 m (pc + 3) ls (S2.map (tv G))) := by
      intro H1 locs1 hP _ hS
      refine hk _ _ _ _ _ hL hLo (okS_tl (okS_tl hSo)) (HR_up hH (by omega) h3 ?_ hx5 hP hS) hc1 hc2
      rw [ent_obj G (kd := (k1, k2)) _ g2]
      dsimp only
      rw [fty_set G k1 k2 mm o.toNat g3 hx2]
    have hlk : ∀ y, s.fieldFound? (mkT C b).1 (mkT C b).2.1 (mkT C b).2.2.1 = some y → s.fieldFound? C.1 (mkT C b).2.1 (mkT C b).2.2.1 = some y := by rw [mkT_at hf]; exact fun _ h9 => h9
    rcases hwd with hwd | hwd
    · have hlink : (Cond.fieldLink M.1.cls n C.1 (mkT C b).2.1 (mkT C b).2.2.1).before args s = true := by rw [mkT_at hf]; exact hC.2.2.2.2.1 _ (lwG_in hwd rfl)
      by_cases hfin : f.2.2.1 = true
      · exact va_putF hC.1 hC.2.1 hC.2.2.2.2.1 (cl_hin hC1) (fT C) (cl_hty hC1) (cl_hnm hC1) hC.2.2.2.1 hE.1 hH.1 (wsO_D G sh mm) hH.2.1 _ hW (cls_at hC1) b hN hlink hlk (by rw [mkT_at hf]; exact hfin) (hini hfin).1 (by rw [mkT_at hf]; exact (hini hfin).2) (cl_hty hC1 b hN) hx3 hx4 hl hdg fin
      · exact va_put hC.1 hC.2.1 hC.2.2.2.2.1 (cl_hin hC1) (fT C) (cl_hty hC1) (cl_hnm hC1) hC.2.2.2.1 hE.1 hH.1 (wsO_D G sh mm) hH.2.1 _ hW (cls_at hC1) b hN hlink hlk (by rw [mkT_at hf]; simpa using hfin) (cl_hty hC1 b hN) hx3 hx4 hl hdg fin
    · exact va_putN hC.1 hC.2.1 hC.2.2.2.2.1 (cl_hin hC1) (fT C) (cl_hty hC1) (cl_hnm hC1) hC.2.2.2.1 hE.1 hH.1 (wsO_D G sh mm) hH.2.1 _ hW (cls_at hC1) b hN (by rw [mkT_at hf]; exact va_Nw.use rfl (hE.2.2.1 _ _ _ _ _ _ hwd.2)) hlk (by rw [mkT_at hf]; exact hnf hwd.1) (cl_hty hC1 b hN) hx3 hx4 hl hdg fin
/-- a cell behind the others -/
theorem HR_push {kd : Kd} {f : Nat → Int} {H1 : Heap} (hH : HR G sh mm s H locs) (hz : H.size + 1 = G.1 + sh.length) (z1 : H1.size = H.size + 1) (o1 : ∀ q, q < H.size → H1[q]? = H[q]?) (hat : va_at G.2.2.2.1 cls (H.size, ent G kd f) H1) (hf : ∀ i, i < kd.2 → okc kd i (f i)) (hl : sh.length < 1000000) :
    HR G (sh ++ [kd]) (fun p j => if p = sh.length then f j else mm p j) s H1 locs := by
  obtain ⟨hP, hS, h4, h5, h6, h7⟩ := hH
  refine ⟨?_, ⟨Nat.le_trans hS.1 (by omega), fun x h1 h2 => (o1 x (Nat.lt_of_lt_of_le h1 hS.1)).trans (hS.2.1 x h1 h2), hS.2.2⟩, by simp, okm_push h5 hf, h6.to (by rw [List.getElem?_append_left (by omega)]) (fun j => if_neg (by omega)), by simp; omega⟩
  intro k q hk
  rw [wsO_push G sh mm kd f h4] at hk
  by_cases hkl : k < (wsO G sh mm).length
  · rw [List.getElem?_append_left hkl] at hk
    have h8 := hP k q hk
    exact h8.kept (o1 _ h8.lt)
  · rw [List.getElem?_append_right (by omega)] at hk
    have hz : k - (wsO G sh mm).length < 1 := (List.getElem?_eq_some_iff.mp hk).1
    rw [show k - (wsO G sh mm).length = 0 by omega] at hk
    cases hk
    rw [show G.1 + (sh.length - 1) = H.size by omega]
    exact hat
theorem W_size {g : JFrame} (kk : H.size ≤ s.heap.size + cells → W p l e R s m args below meth c H locs cells slots Q g) : W p l e R s m args below meth c H locs cells slots Q g := by
  intro T hT X
  refine kk ?_ T hT X
  have h1 := X.same.2.2.1
  rw [← hT]
  exact h1
theorem HR_size (hH : HR G sh mm s H locs) (h0 : s.heap.size + 1 = G.1 + k0) (hk0 : 1 ≤ k0) (hc1 : cells + k0 = sh.length) (hsz : H.size ≤ s.heap.size + cells) : H.size + 1 = G.1 + sh.length := by
  by_cases h2 : sh.length = 1
  · have := hH.2.1.1
    omega
  · have h1 := hH.2.2.1
    have hget : sh[sh.length - 1]? = some sh[sh.length - 1] := List.getElem?_eq_getElem (by omega)
    have hW := wsO_get G mm (o := sh.length - 1) (by omega) hget
    have := (hH.1 _ _ hW).lt
    dsimp only at this
    omega

theorem s_arraylength : SG p l e R s m args below meth c H locs cells slots Q G M pc (.arraylength, nx, a, b, cw, w) L S sh mm ls q k0 s0 := by
  intro hC hE hO hr hs hL hLo hSo hH hc1 hc2 hR hk
  obtain ⟨hdg, hnx, hr⟩ := row_dg (n := 0) hr rfl
  change decode M.2.1 pc = .ok (_, 1) at hdg
  change nx = pc + 1 at hnx
  subst hnx
  simp only [stp, Option.bind_eq_bind, Option.bind_eq_some_iff, Prod.exists] at hs
  obtain ⟨o, S1, h1, k1, k2, h2, hs⟩ := hs
  obtain rfl := pp_some h1
  split at hs
  rotate_left
  · simp at hs
  · rename_i hcond
    obtain ⟨g1, g2, g3⟩ := hcond
    simp only [Option.some.injEq] at hs
    subst hs
    have hk2 := hk _ _ _ _ _ hL hLo (okS_cons (ok_i (show in32 (k2 : Int) by unfold in32; omega)) (okS_tl hSo)) hH hc1 hc2
    by_cases ho : 0 < o
    · have hW := wsO_get G mm (o := o.toNat) (by omega) h2
      have hr2 := ref_adr (G := G) ho h2 hH.2.2.2.2.2
      rw [List.map_cons, hr2]
      have hen : ∃ (t0 : Nat) (cA : ClassId) (x : vp_A) (ty : FieldType), ent G (k1, k2) (mm o.toNat) = .inl (cA, x) ∧ (tys G)[t0]? = some (cA, ty) ∧ x.1 = k2 := by
        obtain ⟨t0, t1, t2, t3, t4⟩ := tys_at G
        by_cases q0 : k1 = 100
        · subst q0; exact ⟨_, _, _, _, rfl, t0, rfl⟩
        · by_cases q1 : k1 = 101
          · subst q1; exact ⟨_, _, _, _, rfl, t1, rfl⟩
          · by_cases q2 : k1 = 102
            · subst q2; exact ⟨_, _, _, _, rfl, t2, rfl⟩
            · by_cases q3 : k1 = 103
              · subst q3; exact ⟨_, _, _, _, rfl, t3, rfl⟩
              · exact ⟨_, _, _, _, ent_ref G (kd := (k1, k2)) _ (by show 104 ≤ k1; omega), t4 k1 (by omega) g3, rfl⟩
      obtain ⟨t0, cA, x, ty, e1, e2, e3⟩ := hen
      rw [e1] at hW
      refine va_alen hC.1 hC.2.1 hE.1 hH.1 _ t0 hW e2 (v := Int32.ofInt (k2 : Int)) (by rw [e3]; exact Int32.ofInt_eq_ofNat.symm) hdg hk2
    · have ho0 : o.toNat = 0 := by omega
      obtain ⟨L0, xs, x1, x2, x3, x4, x5⟩ := hH.2.2.2.2.1
      rw [ho0] at h2
      obtain ⟨-, rfl⟩ := Prod.mk.inj (Option.some.inj (x1.symm.trans h2))
      have hr2 : tv G (2, o) = .ref G.2.1 := by
        show Value.ref (adr G o.toNat) = _
        rw [ho0]; rfl
      rw [List.map_cons, hr2]
      refine va_slen hC.1 hC.2.1 x2 (by omega) (by unfold AZ; omega) hH.2.1 hdg ?_
      have e4 : Value.int (Int32.ofNat L0) = tv G (0, (L0 : Int)) := congrArg Value.int Int32.ofInt_eq_ofNat.symm
      rw [e4]
      exact hk2
theorem s_iaload : SG p l e R s m args below meth c H locs cells slots Q G M pc (.iaload, nx, a, b, cw, w) L S sh mm ls q k0 s0 := by
  intro hC hE hO hr hs hL hLo hSo hH hc1 hc2 hR hk
  obtain ⟨hdg, hnx, hr⟩ := row_dg (n := 0) hr rfl
  change decode M.2.1 pc = .ok (_, 1) at hdg
  change nx = pc + 1 at hnx
  subst hnx
  simp only [stp, Option.bind_eq_bind, Option.bind_eq_some_iff, Prod.exists] at hs
  obtain ⟨i, S1, h1, o, S2, h2, k1, k2, h3, hs⟩ := hs
  obtain rfl := pp_some h1
  obtain rfl := pp_some h2
  split at hs
  rotate_left
  · simp at hs
  · rename_i hcond
    have hi := (okS_hd hSo).1 rfl
    obtain ⟨g1, g2, g3⟩ := hcond
    subst g1
    simp only [Option.some.injEq] at hs
    subst hs
    have hok := hH.2.2.2.1 _ _ h3 i.toNat g3
    have hk2 := hk _ _ _ _ _ hL hLo (okS_cons (ok_i (show in32 (mm o.toNat i.toNat) from hok)) (okS_tl (okS_tl hSo))) hH hc1 hc2
    by_cases ho : 0 < o
    · have hW := wsO_get G mm (o := o.toNat) (by omega) h3
      have hr2 := ref_adr (G := G) ho h3 hH.2.2.2.2.2
      rw [List.map_cons, List.map_cons, hr2]
      rw [ent_int] at hW
      refine va_iald hC.1 hC.2.1 hE.1 hH.1 _ 0 hW (tys_at G).1 (i32_vin hi g2 g3) hdg ?_
      rw [i32_nat hi]
      exact hk2
    · have ho0 : o.toNat = 0 := by omega
      obtain ⟨L0, xs, x1, x2, x3, x4, x5⟩ := hH.2.2.2.2.1
      rw [ho0] at h3 hk2
      obtain ⟨-, rfl⟩ := Prod.mk.inj (Option.some.inj (x1.symm.trans h3))
      have hr2 : tv G (2, o) = .ref G.2.1 := by
        show Value.ref (adr G o.toNat) = _
        rw [ho0]; rfl
      rw [List.map_cons, List.map_cons, hr2]
      refine va_sld hC.1 hC.2.1 x2 (by omega) (by unfold AZ; omega) hH.2.1 (i32_vin hi g2 g3) hdg ?_
      rw [i32_nat hi]
      have e4 : Value.int (xs i.toNat) = tv G (0, mm 0 i.toNat) := by
        rw [x3 _ g3]
        exact congrArg Value.int (i32_of _).symm
      rw [e4]
      exact hk2
theorem s_laload : SG p l e R s m args below meth c H locs cells slots Q G M pc (.laload, nx, a, b, cw, w) L S sh mm ls q k0 s0 := by
  intro hC hE hO hr hs hL hLo hSo hH hc1 hc2 hR hk
  obtain ⟨hdg, hnx, hr⟩ := row_dg (n := 0) hr rfl
  change decode M.2.1 pc = .ok (_, 1) at hdg
  change nx = pc + 1 at hnx
  subst hnx
  simp only [stp, Option.bind_eq_bind, Option.bind_eq_some_iff, Prod.exists] at hs
  obtain ⟨i, S1, h1, o, S2, h2, k1, k2, h3, hs⟩ := hs
  obtain rfl := pp_some h1
  obtain rfl := pp_some h2
  split at hs
  rotate_left
  · simp at hs
  · rename_i hcond
    have hi := (okS_hd hSo).1 rfl
    obtain ⟨ho, g1, g2, g3⟩ := hcond
    subst g1
    simp only [Option.some.injEq] at hs
    subst hs
    have hok := hH.2.2.2.1 _ _ h3 i.toNat g3
    have hk2 := hk _ _ _ _ _ hL hLo (okS_cons (ok_l (show in64 (mm o.toNat i.toNat) from hok)) (okS_tl (okS_tl hSo))) hH hc1 hc2
    have hW := wsO_get G mm (o := o.toNat) (by omega) h3
    have hr2 := ref_adr (G := G) ho h3 hH.2.2.2.2.2
    rw [List.map_cons, List.map_cons, hr2]
    rw [ent_long] at hW
    refine va_lald hC.1 hC.2.1 hE.1 hH.1 _ 1 hW (tys_at G).2.1 (i32_vin hi g2 g3) hdg ?_
    rw [i32_nat hi]
    exact hk2
theorem s_baload : SG p l e R s m args below meth c H locs cells slots Q G M pc (.baload, nx, a, b, cw, w) L S sh mm ls q k0 s0 := by
  intro hC hE hO hr hs hL hLo hSo hH hc1 hc2 hR hk
  obtain ⟨hdg, hnx, hr⟩ := row_dg (n := 0) hr rfl
  change decode M.2.1 pc = .ok (_, 1) at hdg
  change nx = pc + 1 at hnx
  subst hnx
  simp only [stp, Option.bind_eq_bind, Option.bind_eq_some_iff, Prod.exists] at hs
  obtain ⟨i, S1, h1, o, S2, h2, k1, k2, h3, hs⟩ := hs
  obtain rfl := pp_some h1
  obtain rfl := pp_some h2
  split at hs
  rotate_left
  · simp at hs
  · rename_i hcond
    have hi := (okS_hd hSo).1 rfl
    obtain ⟨ho, g1, g2, g3⟩ := hcond
    simp only [Option.some.injEq] at hs
    subst hs
    have hok := hH.2.2.2.1 _ _ h3 i.toNat g3
    have hW := wsO_get G mm (o := o.toNat) (by omega) h3
    have hr2 := ref_adr (G := G) ho h3 hH.2.2.2.2.2
    rw [List.map_cons, List.map_cons, hr2]
    rcases g1 with rfl | rfl
    · have hk2 := hk _ _ _ _ _ hL hLo (okS_cons (ok_i (show in32 (mm o.toNat i.toNat) from hok)) (okS_tl (okS_tl hSo))) hH hc1 hc2
      rw [ent_byte] at hW
      refine va_bald hC.1 hC.2.1 hE.1 hH.1 _ 2 hW (tys_at G).2.2.1 (i32_vin hi g2 g3) hdg ?_
      rw [i32_nat hi]
      exact hk2
    · have hk2 := hk _ _ _ _ _ hL hLo (okS_cons (ok_i (show in32 (mm o.toNat i.toNat) from hok)) (okS_tl (okS_tl hSo))) hH hc1 hc2
      rw [ent_bool] at hW
      refine va_zald hC.1 hC.2.1 hE.1 hH.1 _ 3 hW (tys_at G).2.2.2.1 (i32_vin hi g2 g3) hdg ?_
      rw [i32_nat hi]
      exact hk2
theorem s_aaload : SG p l e R s m args below meth c H locs cells slots Q G M pc (.aaload, nx, a, b, cw, w) L S sh mm ls q k0 s0 := by
  intro hC hE hO hr hs hL hLo hSo hH hc1 hc2 hR hk
  obtain ⟨hdg, hnx, hr⟩ := row_dg (n := 0) hr rfl
  change decode M.2.1 pc = .ok (_, 1) at hdg
  change nx = pc + 1 at hnx
  subst hnx
  simp only [stp, Option.bind_eq_bind, Option.bind_eq_some_iff, Prod.exists] at hs
  obtain ⟨i, S1, h1, o, S2, h2, k1, k2, h3, hs⟩ := hs
  obtain rfl := pp_some h1
  obtain rfl := pp_some h2
  split at hs
  rotate_left
  · simp at hs
  · rename_i hcond
    have hi := (okS_hd hSo).1 rfl
    obtain ⟨ho, g1, g1', g2, g3, g4⟩ := hcond
    simp only [Option.some.injEq] at hs
    subst hs
    have hk2 := hk _ _ _ _ _ hL hLo (okS_cons (ok_r _) (okS_tl (okS_tl hSo))) hH hc1 hc2
    have hW := wsO_get G mm (o := o.toNat) (by omega) h3
    have hr2 := ref_adr (G := G) ho h3 hH.2.2.2.2.2
    rw [List.map_cons, List.map_cons, hr2]
    rw [ent_ref G (kd := (k1, k2)) _ g1] at hW
    refine va_aldq hC.1 hC.2.1 hE.1 hH.1 _ (k1 - 100) hW ((tys_at G).2.2.2.2 k1 g1 g1') (i32_vin hi g2 g3) hdg ?_
    rw [i32_nat hi, if_neg (show ¬ mm o.toNat i.toNat < 0 by omega)]
    exact hk2
theorem s_iastore : SG p l e R s m args below meth c H locs cells slots Q G M pc (.iastore, nx, a, b, cw, w) L S sh mm ls q k0 s0 := by
  intro hC hE hO hr hs hL hLo hSo hH hc1 hc2 hR hk
  obtain ⟨hdg, hnx, hr⟩ := row_dg (n := 0) hr rfl
  change decode M.2.1 pc = .ok (_, 1) at hdg
  change nx = pc + 1 at hnx
  subst hnx
  simp only [stp, Option.bind_eq_bind, Option.bind_eq_some_iff, Prod.exists] at hs
  obtain ⟨v, S0, h0, i, S1, h1, o, S2, h2, k1, k2, h3, hs⟩ := hs
  obtain rfl := pp_some h0
  obtain rfl := pp_some h1
  obtain rfl := pp_some h2
  split at hs
  rotate_left
  · simp at hs
  · rename_i hcond
    have hi := (okS_hd (okS_tl hSo)).1 rfl
    have hv := okS_hd hSo
    obtain ⟨ho, g1, g2, g3⟩ := hcond
    subst g1
    simp only [Option.some.injEq] at hs
    subst hs
    have hW := wsO_get G mm (o := o.toNat) (by omega) h3
    have hr2 := ref_adr (G := G) ho h3 hH.2.2.2.2.2
    rw [List.map_cons, List.map_cons, List.map_cons, hr2]
    rw [ent_int] at hW
    refine va_iast hC.1 hC.2.1 hE.1 hH.1 (wsO_D G sh mm) hH.2.1 _ 0 hW (tys_at G).1 (i32_vin hi g2 g3) hdg (fun H1 locs1 hP _ hS => ?_)
    refine hk _ _ _ _ _ hL hLo (okS_tl (okS_tl (okS_tl hSo))) (HR_up hH (by omega) h3 ?_ (show in32 v from hv.1 rfl) hP hS) hc1 hc2
    rw [ent_int, i32_nat hi, upd_i]
theorem s_lastore : SG p l e R s m args below meth c H locs cells slots Q G M pc (.lastore, nx, a, b, cw, w) L S sh mm ls q k0 s0 := by
  intro hC hE hO hr hs hL hLo hSo hH hc1 hc2 hR hk
  obtain ⟨hdg, hnx, hr⟩ := row_dg (n := 0) hr rfl
  change decode M.2.1 pc = .ok (_, 1) at hdg
  change nx = pc + 1 at hnx
  subst hnx
  simp only [stp, Option.bind_eq_bind, Option.bind_eq_some_iff, Prod.exists] at hs
  obtain ⟨v, S0, h0, i, S1, h1, o, S2, h2, k1, k2, h3, hs⟩ := hs
  obtain rfl := pp_some h0
  obtain rfl := pp_some h1
  obtain rfl := pp_some h2
  split at hs
  rotate_left
  · simp at hs
  · rename_i hcond
    have hi := (okS_hd (okS_tl hSo)).1 rfl
    have hv := okS_hd hSo
    obtain ⟨ho, g1, g2, g3⟩ := hcond
    subst g1
    simp only [Option.some.injEq] at hs
    subst hs
    have hW := wsO_get G mm (o := o.toNat) (by omega) h3
    have hr2 := ref_adr (G := G) ho h3 hH.2.2.2.2.2
    rw [List.map_cons, List.map_cons, List.map_cons, hr2]
    rw [ent_long] at hW
    refine va_last hC.1 hC.2.1 hE.1 hH.1 (wsO_D G sh mm) hH.2.1 _ 1 hW (tys_at G).2.1 (i32_vin hi g2 g3) hdg (fun H1 locs1 hP _ hS => ?_)
    refine hk _ _ _ _ _ hL hLo (okS_tl (okS_tl (okS_tl hSo))) (HR_up hH (by omega) h3 ?_ (show in64 v from hv.2 rfl) hP hS) hc1 hc2
    rw [ent_long, i32_nat hi, upd_l]
theorem s_bastore : SG p l e R s m args below meth c H locs cells slots Q G M pc (.bastore, nx, a, b, cw, w) L S sh mm ls q k0 s0 := by
  intro hC hE hO hr hs hL hLo hSo hH hc1 hc2 hR hk
  obtain ⟨hdg, hnx, hr⟩ := row_dg (n := 0) hr rfl
  change decode M.2.1 pc = .ok (_, 1) at hdg
  change nx = pc + 1 at hnx
  subst hnx
  simp only [stp, Option.bind_eq_bind, Option.bind_eq_some_iff, Prod.exists] at hs
  obtain ⟨v, S0, h0, i, S1, h1, o, S2, h2, k1, k2, h3, hs⟩ := hs
  obtain rfl := pp_some h0
  obtain rfl := pp_some h1
  obtain rfl := pp_some h2
  split at hs
  rotate_left
  · simp at hs
  · rename_i hcond
    have hi := (okS_hd (okS_tl hSo)).1 rfl
    have hv := okS_hd hSo
    obtain ⟨ho, g2, g3, g4⟩ := hcond
    simp only [Option.some.injEq] at hs
    subst hs
    have hW := wsO_get G mm (o := o.toNat) (by omega) h3
    have hr2 := ref_adr (G := G) ho h3 hH.2.2.2.2.2
    rw [List.map_cons, List.map_cons, List.map_cons, hr2]
    have hv32 : in32 v := hv.1 rfl
    rcases g4 with rfl | ⟨rfl, g5⟩
    · rw [ent_byte] at hW
      refine va_bast hC.1 hC.2.1 hE.1 hH.1 (wsO_D G sh mm) hH.2.1 _ 2 hW (tys_at G).2.2.1 (i32_vin hi g2 g3) hdg (fun H1 locs1 hP _ hS => ?_)
      have hb := b8_in v
      refine hk _ _ _ _ _ hL hLo (okS_tl (okS_tl (okS_tl hSo))) (HR_up hH (by omega) h3 ?_ (show in32 (b8 v) by unfold in32; omega) hP hS) hc1 hc2
      rw [ent_byte, i32_nat hi, vp_nar_byte, i32_b8 hv32, upd_i]
      rfl
    · rw [ent_bool] at hW
      refine va_zast hC.1 hC.2.1 hE.1 hH.1 (wsO_D G sh mm) hH.2.1 _ 3 hW (tys_at G).2.2.2.1 (i32_vin hi g2 g3) hdg (fun H1 locs1 hP _ hS => ?_)
      refine hk _ _ _ _ _ hL hLo (okS_tl (okS_tl (okS_tl hSo))) (HR_up hH (by omega) h3 ?_ (show in32 v from hv32) hP hS) hc1 hc2
      have e5 : vp_nar .boolean (Int32.ofInt v) = Int32.ofInt v := by
        rcases g5 with rfl | rfl <;> decide
      rw [ent_bool, i32_nat hi, e5, upd_i]
      rfl
theorem s_aastore : SG p l e R s m args below meth c H locs cells slots Q G M pc (.aastore, nx, a, b, cw, w) L S sh mm ls q k0 s0 := by
  intro hC hE hO hr hs hL hLo hSo hH hc1 hc2 hR hk
  obtain ⟨hdg, hnx, hr⟩ := row_dg (n := 0) hr rfl
  change decode M.2.1 pc = .ok (_, 1) at hdg
  change nx = pc + 1 at hnx
  subst hnx
  simp only [stp, Option.bind_eq_bind, Option.bind_eq_some_iff, Prod.exists] at hs
  obtain ⟨v, S0, h0, i, S1, h1, o, S2, h2, k1, k2, h3, k3, k4, h4, hs⟩ := hs
  obtain rfl := pp_some h0
  obtain rfl := pp_some h1
  obtain rfl := pp_some h2
  split at hs
  rotate_left
  · simp at hs
  · rename_i hcond
    have hi := (okS_hd (okS_tl hSo)).1 rfl
    obtain ⟨ho, g1, g1', g2, g3, g4, g5⟩ := hcond
    simp only [Option.some.injEq] at hs
    subst hs
    have hW := wsO_get G mm (o := o.toNat) (by omega) h3
    have hWv := wsO_get G mm (o := v.toNat) (by omega) h4
    have hr2 := ref_adr (G := G) ho h3 hH.2.2.2.2.2
    have hrv := ref_adr (G := G) g4 h4 hH.2.2.2.2.2
    have hav : adr G v.toNat = G.1 + (v.toNat - 1) := Value.ref.inj hrv
    rw [List.map_cons, List.map_cons, List.map_cons, hr2, hrv]
    rw [ent_ref G (kd := (k1, k2)) _ g1] at hW
    have hcl : ∃ r : vw_C, cls[k3]? = some r ∧ r.1 = ecn k1 ∧ k3 < 100 := by
      subst g5
      rcases (show k1 = 104 ∨ k1 = 105 ∨ k1 = 106 ∨ k1 = 107 by omega) with rfl | rfl | rfl | rfl
      · exact ⟨_, rfl, rfl, by decide⟩
      · exact ⟨_, rfl, rfl, by decide⟩
      · exact ⟨_, rfl, rfl, by decide⟩
      · exact ⟨_, rfl, rfl, by decide⟩
    obtain ⟨r, hr1, hr3, hr4⟩ := hcl
    rw [ent_obj G (kd := (k3, k4)) _ hr4] at hWv
    have hty := (tys_at G).2.2.2.2 k1 g1 g1'
    rw [← hr3] at hty
    refine va_astq hC.1 hC.2.1 hE.1 hH.1 (wsO_D G sh mm) hH.2.1 _ (k1 - 100) _ k3 hW hty hWv hr1 (i32_vin hi g2 g3) hdg (fun H1 locs1 hP _ hS => ?_)
    refine hk _ _ _ _ _ hL hLo (okS_tl (okS_tl (okS_tl hSo))) (HR_up hH (by omega) h3 ?_ ?_ hP hS) hc1 hc2
    · rw [ent_ref G (kd := (k1, k2)) _ g1, i32_nat hi, ← hav, upd_r (by omega)]
    · exact okc_ref g1
end SH
