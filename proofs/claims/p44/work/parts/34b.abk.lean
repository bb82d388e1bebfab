section AL
variable {W : List Nat} {T : List Kd} {m : Mm} {G' : List AV} {ρ : Nat → Int} {nid pc : Nat} {L S G : List SV} {L' S' : List AV}
theorem fin2 {t : Nat} {x : SV} {S1 : List SV} (ht : t ≤ 2) (e : x.1.1 = t) (hS : gSL ρ nid (x :: S1) S') : ∃ y S1', S' = (t, y) :: S1' ∧ gs ρ nid x (t, y) ∧ gSL ρ nid S1 S1' := by
  match S', hS with
  | b :: S1', hS =>
    have e2 := gs_tag hS.1 (by omega)
    rw [e] at e2
    obtain ⟨b1, b2⟩ := b
    dsimp only at e2
    subst e2
    exact ⟨b2, S1', rfl, hS.1, hS.2⟩
  | [], hS => exact hS.elim
set_option maxHeartbeats 4000000 in
theorem stA1_ok {r : Row} (hT : ∀ o, 0 < o → o < 213 → T[o]? = some (tyK (tyO o))) (hn : 0 < nid) (hL : gSL ρ nid L L') (hS : gSL ρ nid S S') (hG : gSL ρ nid G G') (hm : Gam m) : RA W T m G' (stA1 W pc r L S G nid) (stp pc r L' S' T m) := by
  obtain ⟨ins, nx, a, b, cw, w⟩ := r
  have c0 : ∀ x : Int, gs ρ nid (sv0 (0, x, x)) (0, x) := fun x => gs_0 hn ((gq_0 rfl).mpr ⟨rfl, Int.le_refl _, Int.le_refl _⟩)
  have c1 : ∀ x : Int, gs ρ nid (sv0 (1, x, x)) (1, x) := fun x => gs_0 hn ((gq_1 rfl).mpr ⟨rfl, Int.le_refl _, Int.le_refl _⟩)
  have t0 : ∀ x : Int, in32 x → gs ρ nid (sv0 q32) (0, x) := fun x h => gs_0 hn (q32_ok h)
  have t1 : ∀ x : Int, in64 x → gs ρ nid (sv0 q64) (1, x) := fun x h => gs_0 hn (q64_ok h)
  cases ins
  case iconst => exact RA_1 hn hL ⟨c0 _, hS⟩ hG hm Fr_rf
  case bipush => exact RA_1 hn hL ⟨c0 _, hS⟩ hG hm Fr_rf
  case sipush => exact RA_1 hn hL ⟨c0 _, hS⟩ hG hm Fr_rf
  case lconst => exact RA_1 hn hL ⟨c1 _, hS⟩ hG hm Fr_rf
  case ldc i =>
    show RA W T m G' (if b = 0 then _ else _) (some (nx, L', (if b = 0 then 0 else 2, a) :: S', T, m))
    by_cases e : b = 0
    · rw [if_pos e, if_pos e]; exact RA_1 hn hL ⟨c0 _, hS⟩ hG hm Fr_rf
    · rw [if_neg e, if_neg e]
      exact RA_ii fun h => RA_1 hn hL ⟨gs_0 hn ((gq_3 rfl).mpr ⟨rfl, by dsimp only; omega⟩), hS⟩ hG hm Fr_rf
  case ldc_w => exact RA_i (fun h => h) fun _ => RA_1 hn hL ⟨c0 _, hS⟩ hG hm Fr_rf
  case ldc2_w => exact RA_1 hn hL ⟨c1 _, hS⟩ hG hm Fr_rf
  case iload => exact ld1_ok (by decide) hn hL hS hG hm
  case iload_n => exact ld1_ok (by decide) hn hL hS hG hm
  case lload => exact ld1_ok (by decide) hn hL hS hG hm
  case lload_n => exact ld1_ok (by decide) hn hL hS hG hm
  case aload => exact ld3_ok hn hL hS hG hm
  case aload_n => exact ld3_ok hn hL hS hG hm
  case istore => exact str1_ok (by decide) hn hL hS hG hm
  case istore_n => exact str1_ok (by decide) hn hL hS hG hm
  case lstore => exact str2_ok hn hL hS hG hm
  case lstore_n => exact str2_ok hn hL hS hG hm
  case astore => exact str1_ok (by decide) hn hL hS hG hm
  case astore_n => exact str1_ok (by decide) hn hL hS hG hm
  case iinc i n =>
    show RA W T m G' (match glS L 0 i with
      | some x => if i < L.length then one1 nx (st1S L i (addS x (sv0 (0, n, n)))) S G nid else none
      | none => none) ((gl L' 0 i).bind fun x => some (nx, st1 L' i (0, w32 (x + n)), S', T, m))
    have h := RA_gl (W := W) (T := T) (m := m) (G' := G') (f := fun x => if i < L.length then one1 nx (st1S L i (addS x (sv0 (0, n, n)))) S G nid else none) (g := fun x => some (nx, st1 L' i (0, w32 (x + n)), S', T, m)) (t := 0) (i := i) (by decide) hL fun x y tx g => RA_ii fun _ => RA_1 hn (gs_st1 hn hL (addS_ok hn tx rfl g (c0 n))) hS hG hm Fr_rf
    cases e : glS L 0 i with
    | none => exact RA_n
    | some x => rw [e] at h; exact h
  case iadd => exact bin2_ok (F := fun x y => w32 (x + y)) (by decide) hn hL hS hG hm fun _ _ _ _ tx ty gx gy => addS_ok hn tx ty gx gy
  case isub => exact bin2_ok (F := fun x y => w32 (x - y)) (by decide) hn hL hS hG hm fun _ _ _ _ tx ty gx gy => subS_ok hn tx ty gx gy
  case imul => exact bin2_ok (F := fun x y => w32 (x * y)) (by decide) hn hL hS hG hm fun _ _ _ _ tx ty gx gy => mulS_ok hn tx ty gx gy
  case idiv =>
    match S, hS with
    | [], _ => exact RA_n
    | [_], _ => exact RA_n
    | y :: x :: S1, hS =>
      refine RA_ii fun hc => ?_
      obtain ⟨vy, S1', rfl, gy, h1⟩ := fin2 (by decide) hc.1 hS
      obtain ⟨vx, S2', rfl, gx, h2⟩ := fin2 (by decide) hc.2.1 h1
      have hy := (gq_0 hc.1).mp gy.1
      have hx := (gq_0 hc.2.1).mp gx.1
      dsimp only at hx hy
      obtain rfl : vy = y.1.2.1 := by omega
      show RA W T m G' _ (if y.1.2.1 = 0 then none else some (nx, L', (0, w32 (vx.tdiv y.1.2.1)) :: S2', T, m))
      rw [if_neg (show ¬ y.1.2.1 = 0 by omega)]
      refine RA_1 hn hL ⟨gs_0 hn ?_, h2⟩ hG hm Fr_rf
      by_cases e : 0 ≤ x.1.2.1
      · rw [if_pos e, Int.tdiv_eq_ediv_of_nonneg (by omega)]
        exact iv_ok (Int.ediv_le_ediv (by omega) hx.2.1) (Int.ediv_le_ediv (by omega) hx.2.2)
      · rw [if_neg e]; exact q32_ok (w32_in _)
  case irem =>
    match S, hS with
    | [], _ => exact RA_n
    | [_], _ => exact RA_n
    | y :: x :: S1, hS =>
      refine RA_ii fun hc => ?_
      obtain ⟨vy, S1', rfl, gy, h1⟩ := fin2 (by decide) hc.1 hS
      obtain ⟨vx, S2', rfl, gx, h2⟩ := fin2 (by decide) hc.2.1 h1
      have hy := (gq_0 hc.1).mp gy.1
      have hx := (gq_0 hc.2.1).mp gx.1
      dsimp only at hx hy
      obtain rfl : vy = y.1.2.1 := by omega
      show RA W T m G' _ (if y.1.2.1 = 0 then none else some (nx, L', (0, vx.tmod y.1.2.1) :: S2', T, m))
      rw [if_neg (show ¬ y.1.2.1 = 0 by omega)]
      have hb := tmod_b (x := vx) hc.2.2.1
      refine RA_1 hn hL ⟨gs_0 hn ((gq_0 rfl).mpr ⟨rfl, ?_, ?_⟩), h2⟩ hG hm Fr_rf
      · dsimp only; split <;> omega
      · dsimp only; omega
  case ineg => exact un1_ok (t := 0) (t' := 0) (f := fun x => sv0 (iv (-x.1.2.2) (-x.1.2.1))) (F := fun x => w32 (-x)) (by decide) hn hL hS hG hm (by
      intro x a tx gx
      have hx := (gq_0 tx).mp gx.1
      dsimp only at hx
      exact gs_0 hn (iv_ok (by omega) (by omega)))
  case iand => exact bin2_ok (F := iand) (by decide) hn hL hS hG hm fun _ _ _ _ _ _ _ _ => t0 _ (i32_in _)
  case ior => exact bin2_ok (F := ior) (by decide) hn hL hS hG hm fun _ _ _ _ _ _ _ _ => t0 _ (i32_in _)
  case ixor => exact bin2_ok (F := ixor) (by decide) hn hL hS hG hm fun _ _ _ _ _ _ _ _ => t0 _ (i32_in _)
  case ishl => exact bin2_ok (F := ishl) (by decide) hn hL hS hG hm fun _ _ _ _ _ _ _ _ => t0 _ (i32_in _)
  case ishr => exact bin2_ok (F := ishr) (by decide) hn hL hS hG hm fun _ _ _ _ _ _ _ _ => t0 _ (i32_in _)
  case ladd => exact bin2_ok (F := fun x y => w64 (x + y)) (by decide) hn hL hS hG hm fun _ _ _ _ _ _ _ _ => t1 _ (w64_in _)
  case lsub => exact bin2_ok (F := fun x y => w64 (x - y)) (by decide) hn hL hS hG hm fun _ _ _ _ _ _ _ _ => t1 _ (w64_in _)
  case lmul => exact bin2_ok (F := fun x y => w64 (x * y)) (by decide) hn hL hS hG hm fun _ _ _ _ _ _ _ _ => t1 _ (w64_in _)
  case land => exact bin2_ok (F := land) (by decide) hn hL hS hG hm fun _ _ _ _ _ _ _ _ => t1 _ (i64_in _)
  case lor => exact bin2_ok (F := lor) (by decide) hn hL hS hG hm fun _ _ _ _ _ _ _ _ => t1 _ (i64_in _)
  case ldiv =>
    match S, hS with
    | [], _ => exact RA_n
    | [_], _ => exact RA_n
    | y :: x :: S1, hS =>
      refine RA_ii fun hc => ?_
      obtain ⟨vy, S1', rfl, gy, h1⟩ := fin2 (by decide) hc.1 hS
      obtain ⟨vx, S2', rfl, gx, h2⟩ := fin2 (by decide) hc.2.1 h1
      have hy := (gq_1 hc.1).mp gy.1
      dsimp only at hy
      have hz := hc.2.2
      unfold isN at hz
      simp only [Bool.or_eq_true, decide_eq_true_eq] at hz
      show RA W T m G' _ (if vy = 0 then none else some (nx, L', (1, w64 (vx.tdiv vy)) :: S2', T, m))
      rw [if_neg (by omega)]
      exact RA_1 hn hL ⟨t1 _ (w64_in _), h2⟩ hG hm Fr_rf
  case lrem =>
    match S, hS with
    | [], _ => exact RA_n
    | [_], _ => exact RA_n
    | y :: x :: S1, hS =>
      refine RA_ii fun hc => ?_
      obtain ⟨vy, S1', rfl, gy, h1⟩ := fin2 (by decide) hc.1 hS
      obtain ⟨vx, S2', rfl, gx, h2⟩ := fin2 (by decide) hc.2.1 h1
      have hy := (gq_1 hc.1).mp gy.1
      dsimp only at hy
      have hz := hc.2.2.1
      unfold isN at hz
      simp only [Bool.or_eq_true, decide_eq_true_eq] at hz
      show RA W T m G' _ (if vy = 0 then none else some (nx, L', (1, vx.tmod vy) :: S2', T, m))
      rw [if_neg (by omega)]
      have hx := (gq_1 rfl).mp (leQ_any hc.2.2.2 gx.1)
      exact RA_1 hn hL ⟨t1 _ (tmod_in (by decide) (by decide) hx.2), h2⟩ hG hm Fr_rf
  case lshl =>
    match S, hS with
    | [], _ => exact RA_n
    | [_], _ => exact RA_n
    | y :: x :: S1, hS =>
      refine RA_ii fun hc => ?_
      obtain ⟨vy, S1', rfl, gy, h1⟩ := fin2 (by decide) hc.1 hS
      obtain ⟨vx, S2', rfl, gx, h2⟩ := fin2 (by decide) hc.2 h1
      exact RA_1 hn hL ⟨t1 _ (i64_in _), h2⟩ hG hm Fr_rf
  case lshr =>
    match S, hS with
    | [], _ => exact RA_n
    | [_], _ => exact RA_n
    | y :: x :: S1, hS =>
      refine RA_ii fun hc => ?_
      obtain ⟨vy, S1', rfl, gy, h1⟩ := fin2 (by decide) hc.1 hS
      obtain ⟨vx, S2', rfl, gx, h2⟩ := fin2 (by decide) hc.2 h1
      exact RA_1 hn hL ⟨t1 _ (i64_in _), h2⟩ hG hm Fr_rf
  case lcmp => exact bin2_ok (t := 1) (t' := 0) (f := fun x y => sv0 (0, if y.1.2.2 < x.1.2.1 then 1 else if y.1.2.2 ≤ x.1.2.1 then 0 else -1, if x.1.2.2 < y.1.2.1 then -1 else if x.1.2.2 ≤ y.1.2.1 then 0 else 1)) (F := fun x y => if x < y then -1 else if x = y then 0 else 1) (by decide) hn hL hS hG hm (by
      intro x y a b tx ty gx gy
      have hx := (gq_1 tx).mp gx.1
      have hy := (gq_1 ty).mp gy.1
      dsimp only at hx hy
      refine gs_0 hn ((gq_0 rfl).mpr ⟨rfl, ?_, ?_⟩) <;> dsimp only <;> (repeat' split) <;> omega)
  case i2l => exact un1_ok (t := 0) (t' := 1) (f := fun x => ((1, x.1.2), 0, 0)) (F := fun x => x) (by decide) hn hL hS hG hm (by
      intro x a tx gx
      exact ⟨(gq_1 rfl).mpr ⟨rfl, ((gq_0 tx).mp gx.1).2⟩, fun z => absurd rfl z, hn⟩)
  case l2i => exact un1_ok (t := 1) (t' := 0) (F := w32) (by decide) hn hL hS hG hm fun x a tx gx => gs_0 hn (by
      have hx := (gq_1 tx).mp gx.1
      exact iv_ok hx.2.1 hx.2.2)
  case i2b => exact un1_ok (t := 0) (t' := 0) (F := b8) (by decide) hn hL hS hG hm fun x a tx gx => gs_0 hn ((gq_0 rfl).mpr ⟨rfl, b8_in _⟩)
  case i2s => exact un1_ok (t := 0) (t' := 0) (F := b16) (by decide) hn hL hS hG hm fun x a tx gx => gs_0 hn ((gq_0 rfl).mpr ⟨rfl, b16_in _⟩)
  case goto => exact RA_1 hn hL hS hG hm Fr_rf
  case ifCond cn off =>
    match S, hS with
    | [], _ => exact RA_n
    | x :: S1, hS =>
      refine RA_ii fun hc => ?_
      obtain ⟨vx, S1', rfl, gx, h1⟩ := fin2 (by decide) hc hS
      exact RA_br (x := x) (y := sv0 (0, 0, 0)) (a := (0, vx)) (b := (0, 0)) hn gx (c0 0) hc rfl hL h1 hG hm
  case if_icmp cn off =>
    match S, hS with
    | [], _ => exact RA_n
    | [_], _ => exact RA_n
    | y :: x :: S1, hS =>
      refine RA_ii fun hc => ?_
      obtain ⟨vy, S1', rfl, gy, h1⟩ := fin2 (by decide) hc.1 hS
      obtain ⟨vx, S2', rfl, gx, h2⟩ := fin2 (by decide) hc.2 h1
      exact RA_br (x := x) (y := y) (a := (0, vx)) (b := (0, vy)) hn gx gy hc.2 hc.1 hL h2 hG hm
  case tableswitch => exact ts1_ok hn hL hS hG hm
  case dup =>
    match S, S', hS with
    | [], _, _ => exact RA_n
    | v :: S1, v' :: S1', hS =>
      show RA W T m G' (if v.1.1 = 1 ∨ 3 < v.1.1 then none else _) (if v'.1 = 1 then none else _)
      by_cases e : v.1.1 = 1 ∨ 3 < v.1.1
      · rw [if_pos e]; exact RA_n
      · rw [if_neg e]
        have e3 : ¬ v'.1 = 1 := by
          by_cases e4 : v.1.1 = 3
          · have := gs_tag3 hS.1 e4; omega
          · have := gs_tag hS.1 (by omega); omega
        rw [if_neg e3]
        exact RA_1 hn hL ⟨hS.1, hS⟩ hG hm Fr_rf
  case dup2 =>
    match S, S', hS with
    | [], _, _ => exact RA_n
    | [_], _, _ => exact RA_n
    | v :: w :: S1, v' :: w' :: S1', hS =>
      show RA W T m G' (if v.1.1 = 1 ∨ w.1.1 = 1 ∨ 3 < v.1.1 ∨ 3 < w.1.1 then none else _) (if v'.1 = 1 ∨ w'.1 = 1 then none else _)
      by_cases e : v.1.1 = 1 ∨ w.1.1 = 1 ∨ 3 < v.1.1 ∨ 3 < w.1.1
      · rw [if_pos e]; exact RA_n
      · rw [if_neg e]
        have e3 : ¬ v'.1 = 1 := by
          by_cases e4 : v.1.1 = 3
          · have := gs_tag3 hS.1 e4; omega
          · have := gs_tag hS.1 (by omega); omega
        have e5 : ¬ w'.1 = 1 := by
          by_cases e4 : w.1.1 = 3
          · have := gs_tag3 hS.2.1 e4; omega
          · have := gs_tag hS.2.1 (by omega); omega
        rw [if_neg (by omega)]
        exact RA_1 hn hL ⟨hS.1, hS.2.1, hS⟩ hG hm Fr_rf
    | _ :: _ :: _, [_], hS => exact hS.2.elim
  case pop =>
    match S, S', hS with
    | [], _, _ => exact RA_n
    | v :: S1, v' :: S1', hS =>
      show RA W T m G' (if v.1.1 = 0 ∨ v.1.1 = 2 then _ else none) (if v'.1 = 1 then none else _)
      refine RA_ii fun hc => ?_
      have := gs_tag hS.1 (by omega)
      rw [if_neg (by omega)]
      exact RA_1 hn hL hS.2 hG hm Fr_rf
  case pop2 =>
    match S, S', hS with
    | [], _, _ => exact RA_n
    | v :: S1, v' :: S1', hS =>
      show RA W T m G' (if v.1.1 = 1 then _ else none) (if v'.1 = 1 then _ else none)
      refine RA_ii fun hc => ?_
      have := gs_tag hS.1 (by omega)
      rw [if_pos (by omega)]
      exact RA_1 hn hL hS.2 hG hm Fr_rf
  case getfield => exact gf1_ok hT hn hL hS hG hm
  case putfield => exact pf1_ok hT hn hL hS hG hm
  case arraylength => exact al1_ok hT hn hL hS hG hm
  case iaload => exact rd1_ok (P := fun _ i kd _ => kd.1 = 100 ∧ 0 ≤ i ∧ i.toNat < kd.2) hT (by decide) hn hL hS hG hm fun o i kd x h1 h2 h3 h4 h5 _ => ⟨by omega, h4, h5⟩
  case laload => exact rd1_ok (P := fun o i kd _ => 0 < o ∧ kd.1 = 101 ∧ 0 ≤ i ∧ i.toNat < kd.2) hT (by decide) hn hL hS hG hm fun o i kd x h1 h2 h3 h4 h5 _ => ⟨h1, by omega, h4, h5⟩
  case baload => exact rd1_ok (P := fun o i kd _ => 0 < o ∧ (kd.1 = 102 ∨ kd.1 = 103) ∧ 0 ≤ i ∧ i.toNat < kd.2) hT (by decide) hn hL hS hG hm fun o i kd x h1 h2 h3 h4 h5 _ => ⟨h1, by omega, h4, h5⟩
  case aaload => exact rd1_ok (P := fun o i kd x => 0 < o ∧ 104 ≤ kd.1 ∧ kd.1 < 108 ∧ 0 ≤ i ∧ i.toNat < kd.2 ∧ 0 ≤ x) hT (by decide) hn hL hS hG hm fun o i kd x h1 h2 h3 h4 h5 h6 => ⟨h1, h2, by omega, h4, h5, h6 rfl⟩
  case iastore => exact wr1_ok hT (by decide) (by decide) hn hL hS hG hm
  case lastore => exact wr1_ok hT (by decide) (by decide) hn hL hS hG hm
  case bastore => exact bs1_ok hT hn hL hS hG hm
  case invokestatic => exact RA_i (fun h => h) fun _ => spS_ok hT hn hL hS hG hm
  case invokevirtual => exact RA_i (fun h => h) fun _ => spS_ok hT hn hL hS hG hm
  all_goals exact RA_n
end AL
