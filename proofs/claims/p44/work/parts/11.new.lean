/-! what is made; the JDK's own methods -/
theorem sp_in : Cond.arrayClass .int ∈ lw_tbl ∧ Cond.arrayClass .long ∈ lw_tbl ∧ Cond.arrayClass .byte ∈ lw_tbl ∧ Cond.arrayClass .boolean ∈ lw_tbl
    ∧ Cond.arrayOver (.object (ecn 104)) ∈ lw_tbl ∧ Cond.arrayOver (.object (ecn 105)) ∈ lw_tbl ∧ Cond.arrayOver (.object (ecn 106)) ∈ lw_tbl ∧ Cond.arrayOver (.object (ecn 107)) ∈ lw_tbl
    ∧ Cond.instanceMethod Lib.objectInit ∈ lw_tbl ∧ Cond.code Lib.objectInit ⟨#[0xb1]⟩ 1 none ∈ lw_tbl
    ∧ Cond.native arraycopyName ∈ lw_tbl ∧ Cond.static arraycopyName ∈ lw_tbl ∧ Cond.initialized "java/lang/System" ∈ lw_tbl
    ∧ Cond.static Lib.Math.max.name ∈ lw_tbl ∧ Cond.code Lib.Math.max.name Lib.Math.max.code 2 (some .int) ∈ lw_tbl
    ∧ Cond.static Lib.Math.min.name ∈ lw_tbl ∧ Cond.code Lib.Math.min.name Lib.Math.min.code 2 (some .int) ∈ lw_tbl
    ∧ Cond.static Lib.MathLoose.max_long.x ∈ lw_tbl ∧ Cond.code Lib.MathLoose.max_long.x Lib.MathLoose.max_long.code 4 (some .long) ∈ lw_tbl ∧ Cond.initialized "java/lang/Math" ∈ lw_tbl
    ∧ spY (-1) = Lib.objectInit ∧ spY (-2) = arraycopyName ∧ spY (-3) = Lib.Math.max.name ∧ spY (-4) = Lib.Math.min.name ∧ spY (-5) = Lib.MathLoose.max_long.x
    ∧ goodWord (.native arraycopyName) = true ∧ nativeFrameWords "java/lang/System" "arraycopy" 5 ≤ 60 := by
  have h := sp_all
  unfold spOk at h
  split at h
  · simp only [Bool.and_eq_true, decide_eq_true_eq] at h
    obtain ⟨⟨⟨⟨⟨⟨⟨⟨⟨⟨⟨⟨⟨⟨⟨⟨⟨⟨⟨⟨⟨⟨⟨⟨⟨⟨h0, h1⟩, h2⟩, h3⟩, h4⟩, h5⟩, h6⟩, h7⟩, h8⟩, h9⟩, h10⟩, h11⟩, h12⟩, h13⟩, h14⟩, h15⟩, h16⟩, h17⟩, h18⟩, h19⟩, h20⟩, h21⟩, h22⟩, h23⟩, h24⟩, h25⟩, h26⟩ := h
    exact ⟨wAt_in h0, wAt_in h1, wAt_in h2, wAt_in h3, wAt_in h4, wAt_in h5, wAt_in h6, wAt_in h7, wAt_in h8, wAt_in h9, wAt_in h10, wAt_in h11, wAt_in h12, wAt_in h13, wAt_in h14, wAt_in h15, wAt_in h16, wAt_in h17, wAt_in h18, wAt_in h19, h20, h21, h22, h23, h24, h25, h26⟩
  · cases h
section SN
variable {p : Program} {l : Launch} {e : Env} {R : Room} {s : State} {m : MethodId} {args : Array Value} {below : List Frame} {meth : Method} {c : Code} {H : Heap} {locs : List Loc} {cells slots : Nat} {Q : State → Prop}
variable {G : GG} {M : MR} {pc nx b cw w : Nat} {a : Int} {L S : List AV} {sh : List Kd} {mm : Mm} {ls : Array Slot} {q : St5} {k0 s0 : Nat}
theorem tv_new (G : GG) {sh : List Kd} {h : Nat} (h1 : 1 ≤ sh.length) (h2 : sh.length < 1000000) (hz : h + 1 = G.1 + sh.length) : tv G (2, (sh.length : Int)) = .ref h := by
  show Value.ref (adr G ((sh.length : Int)).toNat) = _
  rw [Int.toNat_natCast, adr_small G (by omega) h2]
  exact congrArg Value.ref (show G.1 + (sh.length - 1) = h by omega)
theorem s_new {n : Nat} (h0 : s.heap.size + 1 = G.1 + k0) (hk0 : 1 ≤ k0) : SG p l e R s m args below meth c H locs cells slots Q G M pc (.new n, nx, a, b, cw, w) L S sh mm ls q k0 s0 := by
  intro hC hE hO hr hs hL hLo hSo hH hc1 hc2 hR hk
  obtain ⟨hdg, hnx, hr⟩ := row_dg (n := 2) hr rfl
  change decode M.2.1 pc = .ok (_, 3) at hdg
  change nx = pc + 3 at hnx
  subst hnx
  simp only [stp] at hs
  split at hs
  rotate_left
  · cases hs
  · rename_i hcond
    obtain ⟨g1, g2⟩ := hcond
    simp only [Option.some.injEq] at hs
    subst hs
    unfold rowL at hr
    dsimp only at hr
    split at hr
    rotate_left
    · cases hr
    · rename_i C hC1
      simp only [Bool.and_eq_true, beq_iff_eq, decide_eq_true_eq] at hr
      obtain ⟨⟨g3, rfl⟩, g4⟩ := hr
      refine W_size (fun hsz => ?_)
      have hz := HR_size hH h0 hk0 hc1 hsz
      have hcl := cl_of hC1
      unfold clOk at hcl
      simp only [Bool.and_eq_true] at hcl
      have hKn := hE.1.1 _ _ (cls_at hC1)
      have r1 := hR.2.2.1
      have r2 := hR.2.2.2
      dsimp only at r1 r2
      rw [tot_push] at r2
      rw [List.length_append, List.length_singleton] at r1
      dsimp only at r2
      refine W.newcK hC.1 hC.2.1 hC.2.2.2.1 (hC.2.2.2.2.1 _ (lwG_in (wAt_in g4) rfl)) (hC.2.2.2.2.1 _ (lwG_in (wAt_in hcl.1.1.1) rfl)) (hC.2.2.2.2.1 _ (lwG_in (wAt_in hcl.1.1.2) rfl)) (g := F0 m pc ls (S.map (tv G))) rfl hdg (by omega) (by omega) hKn.2.1 rfl (fun H1 kC hkC e1 z1 o1 => ?_)
      have hob := u_born (fT C) hC.2.2.2.2.1 (cl_hin hC1) hKn hkC e1 (cl_hty hC1)
      have hat : va_at G.2.2.2.1 cls (H.size, ent G (a.toNat, C.2.2.2.length) (fun j => if fty a.toNat j = 2 then -1 else 0)) H1 := by
        rw [ent_obj G (kd := (a.toNat, C.2.2.2.length)) _ g1]
        refine ⟨_, cls_at hC1, hob.to (fun k hk => ?_)⟩
        have e2 : vp_V ((List.range C.2.2.2.length).map (fun j => fv G (fty a.toNat j) (if fty a.toNat j = 2 then -1 else 0))) k = fv G (fty a.toNat k) (if fty a.toNat k = 2 then -1 else 0) := by
          unfold vp_V
          rw [List.getD_eq_getElem?_getD, fty_col G a.toNat _ (fun j => if fty a.toNat j = 2 then -1 else 0) hk]
          rfl
        rw [e2]
        rcases cl_code hC1 hk with ⟨q1, q2⟩ | ⟨q1, q2⟩ | ⟨q1, q2⟩ | ⟨q1, q2⟩
        · rw [q1, q2]; rfl
        · rw [q1, q2]; rfl
        · rw [q1, q2]; rfl
        · rw [q1]
          rcases q2 with ⟨y, q2⟩ | ⟨y, q2⟩ <;> rw [q2] <;> rfl
      have hnew := HR_push (kd := (a.toNat, C.2.2.2.length)) hH hz z1 o1 hat (fun i _ => by
        unfold okc wide refc
        dsimp only
        rw [if_pos g1, if_pos g1]
        by_cases q1 : fty a.toNat i = 1
        · rw [if_pos (by simp [q1]), if_neg (by omega)]; exact in64_0
        · rw [if_neg (by simp [q1])]
          by_cases q2 : fty a.toNat i = 2
          · rw [if_pos (by simp [q2])]; trivial
          · rw [if_neg (by simp [q2]), if_neg q2]; exact in32_0) g2
      have hk2 := hk ls H1 locs (cells + 1) (slots + C.2.2.2.length) hL hLo (okS_cons (ok_r _) hSo) hnew (by dsimp only; rw [List.length_append, List.length_singleton]; omega) (by dsimp only; rw [tot_push]; omega)
      rw [List.map_cons, tv_new G hH.2.2.1 g2 hz] at hk2
      exact hk2
theorem arK_of {t : ArrayType} {k : Nat} (h : arK t = some k) : 100 ≤ k ∧ k < 104 ∧ Cond.arrayClass (newarray.typeOf t) ∈ lw_tbl ∧ (tys G)[k - 100]? = some (G.2.2.2.2 (k - 100), newarray.typeOf t) ∧ componentBytes (newarray.typeOf t) ≤ 8 ∧ (∀ (U : State) (cA : ClassId), va_RA U (G.2.2.2.2 (k - 100)) (newarray.typeOf t) → U.vm.findClass ("[" ++ (newarray.typeOf t).toString) = some cA → cA = G.2.2.2.2 (k - 100))
    ∧ (∀ (n : Nat), ∃ x : vp_A, ent G (k, n) (fun _ => 0) = .inl (G.2.2.2.2 (k - 100), x) ∧ vp_cell (G.2.2.2.2 (k - 100)) x = arrV (G.2.2.2.2 (k - 100)) n (fun _ => defaultValue (newarray.typeOf t))) := by
  have hi := sp_in
  cases t <;> simp only [arK, Option.some.injEq] at h <;> first | (cases h; done) | subst h
  · exact ⟨by decide, by decide, hi.2.2.2.1, rfl, by decide, fun U cA h1 h2 => Option.some.inj (h2.symm.trans h1), fun n => ⟨_, rfl, rfl⟩⟩
  · exact ⟨by decide, by decide, hi.2.2.1, rfl, by decide, fun U cA h1 h2 => Option.some.inj (h2.symm.trans h1), fun n => ⟨_, rfl, rfl⟩⟩
  · exact ⟨by decide, by decide, hi.1, rfl, by decide, fun U cA h1 h2 => Option.some.inj (h2.symm.trans h1), fun n => ⟨_, rfl, rfl⟩⟩
  · exact ⟨by decide, by decide, hi.2.1, rfl, by decide, fun U cA h1 h2 => Option.some.inj (h2.symm.trans h1), fun n => ⟨_, rfl, rfl⟩⟩
theorem okc_0 {kd : Kd} {i : Nat} : okc kd i 0 := by
  unfold okc
  split
  · exact in64_0
  · split
    · trivial
    · exact in32_0
theorem s_newarray {t : ArrayType} (h0 : s.heap.size + 1 = G.1 + k0) (hk0 : 1 ≤ k0) : SG p l e R s m args below meth c H locs cells slots Q G M pc (.newarray t, nx, a, b, cw, w) L S sh mm ls q k0 s0 := by
  intro hC hE hO hr hs hL hLo hSo hH hc1 hc2 hR hk
  obtain ⟨hdg, hnx, hr⟩ := row_dg (n := 1) hr rfl
  change decode M.2.1 pc = .ok (_, 2) at hdg
  change nx = pc + 2 at hnx
  subst hnx
  simp only [stp, Option.bind_eq_bind, Option.bind_eq_some_iff, Prod.exists] at hs
  obtain ⟨n, S1, h1, k, h2, hs⟩ := hs
  obtain rfl := pp_some h1
  split at hs
  rotate_left
  · simp at hs
  · rename_i hcond
    obtain ⟨g1, g2, g3⟩ := hcond
    simp only [Option.some.injEq] at hs
    subst hs
    have hn := (okS_hd hSo).1 rfl
    obtain ⟨q1, q2, q3, q4, q5, q6, q7⟩ := arK_of (G := G) h2
    refine W_size (fun hsz => ?_)
    have hz := HR_size hH h0 hk0 hc1 hsz
    have r1 := hR.2.2.1
    have r2 := hR.2.2.2
    dsimp only at r1 r2
    rw [tot_push] at r2
    rw [List.length_append, List.length_singleton] at r1
    dsimp only at r2
    refine va_newaK hC.1 hC.2.1 (hC.2.2.2.2.1 _ (lwG_in q3 rfl)) (g := F0 m pc ls (((0, n) :: S1).map (tv G))) rfl hdg (n := Int32.ofInt n) (N := n.toNat) (rest := S1.map (tv G)) rfl (i32_nlt hn g1) (i32_nat hn) (Nat.le_trans (Nat.mul_le_mul (show n.toNat ≤ 100000 by omega) q5) (by decide)) (by omega) (by omega) rfl (fun H1 cA e1 z1 o1 _ hNm => ?_)
    obtain rfl := q6 s cA (hE.1.2 _ _ q4).2 hNm
    obtain ⟨x, x1, x2⟩ := q7 n.toNat
    have hat : va_at G.2.2.2.1 cls (H.size, ent G (k, n.toNat) (fun _ => 0)) H1 := by
      rw [x1]
      show H1[H.size]? = some (vp_cell _ _)
      rw [x2]
      exact e1
    have hnew := HR_push (kd := (k, n.toNat)) hH hz z1 o1 hat (fun i _ => okc_0) g3
    have hk2 := hk ls H1 locs (cells + 1) (slots + n.toNat) hL hLo (okS_cons (ok_r _) (okS_tl hSo)) hnew (by dsimp only; rw [List.length_append, List.length_singleton]; omega) (by dsimp only; rw [tot_push]; omega)
    rw [List.map_cons, tv_new G hH.2.2.1 g3 hz] at hk2
    exact hk2
theorem s_anewarray {t : Nat} (h0 : s.heap.size + 1 = G.1 + k0) (hk0 : 1 ≤ k0) : SG p l e R s m args below meth c H locs cells slots Q G M pc (.anewarray t, nx, a, b, cw, w) L S sh mm ls q k0 s0 := by
  intro hC hE hO hr hs hL hLo hSo hH hc1 hc2 hR hk
  obtain ⟨hdg, hnx, hr⟩ := row_dg (n := 2) hr rfl
  change decode M.2.1 pc = .ok (_, 3) at hdg
  change nx = pc + 3 at hnx
  subst hnx
  simp only [stp, Option.bind_eq_bind, Option.bind_eq_some_iff, Prod.exists] at hs
  obtain ⟨n, S1, h1, hs⟩ := hs
  obtain rfl := pp_some h1
  split at hs
  rotate_left
  · simp at hs
  · rename_i hcond
    obtain ⟨g1, g2, g3, g4, g5⟩ := hcond
    simp only [Option.some.injEq] at hs
    subst hs
    unfold rowL at hr
    simp only [Bool.and_eq_true, decide_eq_true_eq] at hr
    have hn := (okS_hd hSo).1 rfl
    have hty := (tys_at G).2.2.2.2 a.toNat (by omega) (by omega)
    refine W_size (fun hsz => ?_)
    have hz := HR_size hH h0 hk0 hc1 hsz
    have r1 := hR.2.2.1
    have r2 := hR.2.2.2
    dsimp only at r1 r2
    rw [tot_push] at r2
    rw [List.length_append, List.length_singleton] at r1
    dsimp only at r2
    have hnn := i32_nat hn
    dsimp only at hnn
    refine W.anew hC.1 hC.2.1 hC.2.2.2.1 (hC.2.2.2.2.1 _ (lwG_in (wAt_in hr.2) rfl)) (va_AO.use (hE.2.1 a.toNat (by omega) (by omega))) (g := F0 m pc ls (((0, n) :: S1).map (tv G))) rfl hdg (n := Int32.ofInt n) (rest := S1.map (tv G)) rfl (i32_nlt hn g1) (by rw [hnn]; omega) (by omega) (by rw [hnn]; omega) (fun cA kA comp f1 f2 f3 f4 => ?_)
    obtain ⟨kA', comp', p1, p2, p3, p4⟩ := (hE.1.2 _ _ hty).2
    have hcA : G.2.2.2.2 (a.toNat - 100) = cA := Option.some.inj (p4.symm.trans f1)
    generalize hH1 : H.push ({ cls := cA, slots := Array.replicate (Int32.ofInt n).toNatClampNeg .null, vm := .none } : Cell) = H1
    have z1 : H1.size = H.size + 1 := by rw [← hH1, Array.size_push]
    have e1 : H1[H.size]? = some (arrV cA (Int32.ofInt n).toNatClampNeg (fun _ => .null)) := by rw [← hH1, Array.getElem?_push_size, ← arrV_new]
    have o1 : ∀ y : Nat, y < H.size → H1[y]? = H[y]? := fun y hy => by rw [← hH1, Array.getElem?_push, if_neg (Nat.ne_of_lt hy)]
    have hat : va_at G.2.2.2.1 cls (H.size, ent G (a.toNat, n.toNat) (fun _ => -1)) H1 := by
      rw [ent_ref G (kd := (a.toNat, n.toNat)) _ (by show 104 ≤ a.toNat; omega)]
      show H1[H.size]? = some (vp_cell _ _)
      rw [vp_cell_q, e1, hcA, hnn]
      rfl
    have hnew := HR_push (kd := (a.toNat, n.toNat)) hH hz z1 o1 hat (fun i _ => okc_ref (show 104 ≤ a.toNat by omega)) g3
    have hk2 := hk ls H1 locs (cells + 1) (slots + n.toNat) hL hLo (okS_cons (ok_r _) (okS_tl hSo)) hnew (by dsimp only; rw [List.length_append, List.length_singleton]; omega) (by dsimp only; rw [tot_push]; omega)
    rw [List.map_cons, tv_new G hH.2.2.1 g3 hz] at hk2
    rw [hnn]
    exact hk2
theorem s_tableswitch {d lo hi : Int} {offs : Array Int} : SG p l e R s m args below meth c H locs cells slots Q G M pc (.tableswitch d lo hi offs, nx, a, b, cw, w) L S sh mm ls q k0 s0 := by
  intro hC hE hO hr hs hL hLo hSo hH hc1 hc2 hR hk
  unfold rowOk at hr
  simp only [Bool.and_eq_true, decide_eq_true_eq] at hr
  have hdg := fdc_ok hr.1.1 rfl
  simp only [stp, Option.bind_eq_bind, Option.bind_eq_some_iff, Prod.exists] at hs
  obtain ⟨x, S1, h1, hs⟩ := hs
  obtain rfl := pp_some h1
  have hx := (okS_hd hSo).1 rfl
  have hx2 : (Int32.ofInt x).toInt = x := i32_to hx
  split at hs
  · rename_i hout
    split at hs
    · rename_i hge
      simp only [Option.some.injEq] at hs
      subst hs
      refine lv_tableOut (tgt := ((pc : Int) + d).toNat) hC.1 hC.2.1 hdg (by show (Int32.ofInt x).toInt < lo ∨ hi < (Int32.ofInt x).toInt; rw [hx2]; exact hout) (by omega) ?_
      exact hk _ _ _ _ _ hL hLo (okS_tl hSo) hH hc1 hc2
    · cases hs
  · rename_i hin
    simp only [Option.bind_eq_some_iff] at hs
    obtain ⟨off, h2, hs⟩ := hs
    split at hs
    · rename_i hge
      simp only [Option.some.injEq] at hs
      subst hs
      refine lv_tableIn (tgt := ((pc : Int) + off).toNat) hC.1 hC.2.1 hdg (by show ¬ (Int32.ofInt x).toInt < lo; rw [hx2]; omega) (by show ¬ hi < (Int32.ofInt x).toInt; rw [hx2]; omega) (by show offs[((Int32.ofInt x).toInt - lo).toNat]? = some off; rw [hx2]; exact h2) (by omega) ?_
      exact hk _ _ _ _ _ hL hLo (okS_tl hSo) hH hc1 hc2
    · cases hs
end SN
