/-! an instruction over bounds is sound -/
section IV
variable {F : Nat → Option Kd} {T : List Kd} {c nx pc : Nat} {a : Int} {M : MI} {m : Mm} {L S : List AI} {L' S' : List AV}
theorem spcI_ok (hF : FT F T) (hT : T.length ≤ 256) (hL : gL L L') (hS : gL S S') (hc : c ≤ T.length) (hM : gm F c M m) : RO F T (spcI F nx a L S c M) (spc nx a L' S' (T.take c) m) := by
  unfold spcI spc
  simp only [Option.bind_eq_bind]
  by_cases a1 : a = -1
  · rw [if_pos a1, if_pos a1]
    exact RO_pp hS fun _ _ _ _ _ h1 => RO_i (fun h => by rw [gL_csum h1]; exact h) fun _ => RO_s hL h1 hc hM
  rw [if_neg a1, if_neg a1]
  by_cases a2 : a = -2
  · rw [if_pos a2, if_pos a2]
    refine RO_pc hS fun n _ _ h1 => RO_pc h1 fun dp _ _ h2 => RO_pc h2 fun g _ _ h3 => RO_pc h3 fun sp _ _ h4 => RO_pc h4 fun f _ _ h5 => RO_lk hF fun kf e1 => RO_lk hF fun kg e2 => RO_i (fun h => by rw [gL_csum h5]; exact h) fun h => RO_s hL h5 hc ?_
    exact gm_cp hF hT hM e1 e2 h.2.2.2.2.2.2.2.2.1
  rw [if_neg a2, if_neg a2]
  by_cases a3 : a = -3
  · rw [if_pos a3, if_pos a3]
    exact RO_pp hS fun _ _ _ _ g1 h1 => RO_pp h1 fun _ _ _ _ g2 h2 => RO_i (fun h => by rw [gL_csum h2]; exact h) fun _ => RO_s hL ⟨⟨rfl, bin_ok g2 g1⟩, h2⟩ hc hM
  rw [if_neg a3, if_neg a3]
  by_cases a4 : a = -4
  · rw [if_pos a4, if_pos a4]
    exact RO_pp hS fun _ _ _ _ g1 h1 => RO_pp h1 fun _ _ _ _ g2 h2 => RO_i (fun h => by rw [gL_csum h2]; exact h) fun _ => RO_s hL ⟨⟨rfl, bin_ok g2 g1⟩, h2⟩ hc hM
  rw [if_neg a4, if_neg a4]
  by_cases a5 : a = -5
  · rw [if_pos a5, if_pos a5]
    exact RO_pp hS fun _ _ _ _ g1 h1 => RO_pp h1 fun _ _ _ _ g2 h2 => RO_i (fun h => by rw [gL_csum h2]; exact h) fun _ => RO_s hL ⟨⟨rfl, bin_ok g2 g1⟩, h2⟩ hc hM
  rw [if_neg a5, if_neg a5]
  by_cases a6 : a = -6
  · rw [if_pos a6, if_pos a6]
    exact RO_pc hS fun o _ _ h1 => RO_o fun n _ => RO_i (fun h => by rw [gL_csum h1]; exact h) fun _ => RO_s hL ⟨⟨rfl, gi_1⟩, h1⟩ hc hM
  rw [if_neg a6, if_neg a6]
  by_cases a7 : a = -7
  · rw [if_pos a7, if_pos a7]
    exact RO_pc hS fun i _ _ h1 => RO_pc h1 fun o _ _ h2 => RO_o fun n _ => RO_i (fun h => by rw [gL_csum h2]; exact h) fun _ => RO_s hL ⟨⟨rfl, gi_1⟩, h2⟩ hc hM
  rw [if_neg a7]
  exact RO_n
set_option maxHeartbeats 4000000 in
theorem stpI_ok {r : Row} (hF : FT F T) (hT : T.length ≤ 256) (hL : gL L L') (hS : gL S S') (hc : c ≤ T.length) (hM : gm F c M m) : RO F T (stpI F pc r L S c M) (stp pc r L' S' (T.take c) m) := by
  obtain ⟨ins, nx, a, b, cw, w⟩ := r
  cases ins
  case iconst => exact RO_s hL ⟨⟨rfl, gi_1⟩, hS⟩ hc hM
  case bipush => exact RO_s hL ⟨⟨rfl, gi_1⟩, hS⟩ hc hM
  case sipush => exact RO_s hL ⟨⟨rfl, gi_1⟩, hS⟩ hc hM
  case lconst => exact RO_s hL ⟨⟨rfl, gi_1⟩, hS⟩ hc hM
  case ldc => exact RO_s hL ⟨⟨rfl, gi_1⟩, hS⟩ hc hM
  case ldc_w => exact RO_i (fun h => h) fun _ => RO_s hL ⟨⟨rfl, gi_1⟩, hS⟩ hc hM
  case ldc2_w => exact RO_s hL ⟨⟨rfl, gi_1⟩, hS⟩ hc hM
  case iload => exact RO_gl hL fun _ _ g => RO_s hL ⟨⟨rfl, g⟩, hS⟩ hc hM
  case iload_n => exact RO_gl hL fun _ _ g => RO_s hL ⟨⟨rfl, g⟩, hS⟩ hc hM
  case lload => exact RO_gl hL fun _ _ g => RO_s hL ⟨⟨rfl, g⟩, hS⟩ hc hM
  case lload_n => exact RO_gl hL fun _ _ g => RO_s hL ⟨⟨rfl, g⟩, hS⟩ hc hM
  case aload => exact RO_gl hL fun _ _ g => RO_s hL ⟨⟨rfl, g⟩, hS⟩ hc hM
  case aload_n => exact RO_gl hL fun _ _ g => RO_s hL ⟨⟨rfl, g⟩, hS⟩ hc hM
  case istore => exact RO_pp hS fun _ _ _ _ g h => RO_i (fun e => by rw [gL_len hL]; exact e) fun _ => RO_s (gL_st1 hL ⟨rfl, g⟩) h hc hM
  case istore_n => exact RO_pp hS fun _ _ _ _ g h => RO_i (fun e => by rw [gL_len hL]; exact e) fun _ => RO_s (gL_st1 hL ⟨rfl, g⟩) h hc hM
  case lstore => exact RO_pp hS fun _ _ _ _ g h => RO_i (fun e => by rw [gL_len hL]; exact e) fun _ => RO_s (gL_st2 hL ⟨rfl, g⟩) h hc hM
  case lstore_n => exact RO_pp hS fun _ _ _ _ g h => RO_i (fun e => by rw [gL_len hL]; exact e) fun _ => RO_s (gL_st2 hL ⟨rfl, g⟩) h hc hM
  case astore => exact RO_pp hS fun _ _ _ _ g h => RO_i (fun e => by rw [gL_len hL]; exact e) fun _ => RO_s (gL_st1 hL ⟨rfl, g⟩) h hc hM
  case astore_n => exact RO_pp hS fun _ _ _ _ g h => RO_i (fun e => by rw [gL_len hL]; exact e) fun _ => RO_s (gL_st1 hL ⟨rfl, g⟩) h hc hM
  case iinc i n => exact RO_gl hL fun _ _ g => RO_s (gL_st1 hL ⟨rfl, un_ok (f := fun x => w32 (x + n)) g⟩) hS hc hM
  case iadd => exact RO_pp hS fun _ _ _ _ g1 h1 => RO_pp h1 fun _ _ _ _ g2 h2 => RO_s hL ⟨⟨rfl, bin_ok (f := fun x y => w32 (x + y)) g2 g1⟩, h2⟩ hc hM
  case isub => exact RO_pp hS fun _ _ _ _ g1 h1 => RO_pp h1 fun _ _ _ _ g2 h2 => RO_s hL ⟨⟨rfl, bin_ok (f := fun x y => w32 (x - y)) g2 g1⟩, h2⟩ hc hM
  case imul => exact RO_pp hS fun _ _ _ _ g1 h1 => RO_pp h1 fun _ _ _ _ g2 h2 => RO_s hL ⟨⟨rfl, bin_ok (f := fun x y => w32 (x * y)) g2 g1⟩, h2⟩ hc hM
  case idiv => exact RO_pc hS fun y _ _ h1 => RO_pp h1 fun _ _ _ _ g2 h2 => RO_e (fun _ => RO_n) fun _ => RO_s hL ⟨⟨rfl, un_ok (f := fun x => w32 (x.tdiv y)) g2⟩, h2⟩ hc hM
  case irem => exact RO_pc hS fun y _ _ h1 => RO_pp h1 fun _ _ _ _ g2 h2 => RO_e (fun _ => RO_n) fun _ => RO_s hL ⟨⟨rfl, un_ok (f := fun x => x.tmod y) g2⟩, h2⟩ hc hM
  case ineg => exact RO_pp hS fun _ _ _ _ g h => RO_s hL ⟨⟨rfl, un_ok (f := fun x => w32 (-x)) g⟩, h⟩ hc hM
  case iand => exact RO_pp hS fun _ _ _ _ g1 h1 => RO_pp h1 fun _ _ _ _ g2 h2 => RO_s hL ⟨⟨rfl, bin_ok g2 g1⟩, h2⟩ hc hM
  case ior => exact RO_pp hS fun _ _ _ _ g1 h1 => RO_pp h1 fun _ _ _ _ g2 h2 => RO_s hL ⟨⟨rfl, bin_ok g2 g1⟩, h2⟩ hc hM
  case ixor => exact RO_pp hS fun _ _ _ _ g1 h1 => RO_pp h1 fun _ _ _ _ g2 h2 => RO_s hL ⟨⟨rfl, bin_ok g2 g1⟩, h2⟩ hc hM
  case ishl => exact RO_pp hS fun _ _ _ _ g1 h1 => RO_pp h1 fun _ _ _ _ g2 h2 => RO_s hL ⟨⟨rfl, bin_ok g2 g1⟩, h2⟩ hc hM
  case ishr => exact RO_pp hS fun _ _ _ _ g1 h1 => RO_pp h1 fun _ _ _ _ g2 h2 => RO_s hL ⟨⟨rfl, bin_ok g2 g1⟩, h2⟩ hc hM
  case ladd => exact RO_pp hS fun _ _ _ _ g1 h1 => RO_pp h1 fun _ _ _ _ g2 h2 => RO_s hL ⟨⟨rfl, bin_ok (f := fun x y => w64 (x + y)) g2 g1⟩, h2⟩ hc hM
  case lsub => exact RO_pp hS fun _ _ _ _ g1 h1 => RO_pp h1 fun _ _ _ _ g2 h2 => RO_s hL ⟨⟨rfl, bin_ok (f := fun x y => w64 (x - y)) g2 g1⟩, h2⟩ hc hM
  case lmul => exact RO_pp hS fun _ _ _ _ g1 h1 => RO_pp h1 fun _ _ _ _ g2 h2 => RO_s hL ⟨⟨rfl, bin_ok (f := fun x y => w64 (x * y)) g2 g1⟩, h2⟩ hc hM
  case ldiv => exact RO_pc hS fun y _ _ h1 => RO_pp h1 fun _ _ _ _ g2 h2 => RO_e (fun _ => RO_n) fun _ => RO_s hL ⟨⟨rfl, un_ok (f := fun x => w64 (x.tdiv y)) g2⟩, h2⟩ hc hM
  case lrem => exact RO_pc hS fun y _ _ h1 => RO_pp h1 fun _ _ _ _ g2 h2 => RO_e (fun _ => RO_n) fun _ => RO_s hL ⟨⟨rfl, un_ok (f := fun x => x.tmod y) g2⟩, h2⟩ hc hM
  case land => exact RO_pp hS fun _ _ _ _ g1 h1 => RO_pp h1 fun _ _ _ _ g2 h2 => RO_s hL ⟨⟨rfl, bin_ok g2 g1⟩, h2⟩ hc hM
  case lor => exact RO_pp hS fun _ _ _ _ g1 h1 => RO_pp h1 fun _ _ _ _ g2 h2 => RO_s hL ⟨⟨rfl, bin_ok g2 g1⟩, h2⟩ hc hM
  case lshl => exact RO_pp hS fun _ _ _ _ g1 h1 => RO_pp h1 fun _ _ _ _ g2 h2 => RO_s hL ⟨⟨rfl, bin_ok g2 g1⟩, h2⟩ hc hM
  case lshr => exact RO_pp hS fun _ _ _ _ g1 h1 => RO_pp h1 fun _ _ _ _ g2 h2 => RO_s hL ⟨⟨rfl, bin_ok g2 g1⟩, h2⟩ hc hM
  case lcmp => exact RO_pp hS fun _ _ _ _ g1 h1 => RO_pp h1 fun _ _ _ _ g2 h2 => RO_s hL ⟨⟨rfl, lcI_ok g2 g1⟩, h2⟩ hc hM
  case i2l => exact RO_pp hS fun _ _ _ _ g h => RO_s hL ⟨⟨rfl, g⟩, h⟩ hc hM
  case l2i => exact RO_pp hS fun _ _ _ _ g h => RO_s hL ⟨⟨rfl, un_ok g⟩, h⟩ hc hM
  case i2b => exact RO_pp hS fun _ _ _ _ g h => RO_s hL ⟨⟨rfl, un_ok g⟩, h⟩ hc hM
  case i2s => exact RO_pp hS fun _ _ _ _ g h => RO_s hL ⟨⟨rfl, un_ok g⟩, h⟩ hc hM
  case goto => exact RO_s hL hS hc hM
  case ifCond cn off => exact RO_pp hS fun _ _ _ _ g h => RO_cn (g := fun t => some (if t then a.toNat else nx, L', _, T.take c, m)) g gi_1 fun t => RO_s hL h hc hM
  case if_icmp cn off => exact RO_pp hS fun _ _ _ _ g1 h1 => RO_pp h1 fun _ _ _ _ g2 h2 => RO_cn (g := fun t => some (if t then a.toNat else nx, L', _, T.take c, m)) g2 g1 fun t => RO_s hL h2 hc hM
  case tableswitch d lo hi offs =>
    refine RO_pp hS fun x S1 y S1' g h => ?_
    match x, g with
    | none, _ => exact RO_n
    | some q, g =>
      have hq := g q rfl
      by_cases e1 : q.2 < lo ∨ hi < q.1
      · have e2 : y < lo ∨ hi < y := by omega
        show RO F T (if q.2 < lo ∨ hi < q.1 then _ else _) (if y < lo ∨ hi < y then _ else _)
        rw [if_pos e1, if_pos e2]
        exact RO_i (fun h => h) fun _ => RO_s hL h hc hM
      · show RO F T (if q.2 < lo ∨ hi < q.1 then _ else _) _
        rw [if_neg e1]
        by_cases e3 : q.1 = q.2
        · rw [if_pos e3]
          have e4 : y = q.1 := by omega
          subst e4
          show RO F T _ (if q.1 < lo ∨ hi < q.1 then _ else _)
          rw [if_neg (by omega)]
          exact RO_o fun off _ => RO_i (fun h => h) fun _ => RO_s hL h hc hM
        · rw [if_neg e3]
          exact RO_n
  case dup =>
    match S, S', hS with
    | [], _, _ => exact RO_n
    | v :: S1, v' :: S1', hS =>
      show RO F T (if v.1 = 1 then none else _) (if v'.1 = 1 then none else _)
      rw [hS.1.1]
      exact RO_e (fun _ => RO_n) fun _ => RO_s hL ⟨hS.1, hS⟩ hc hM
  case dup2 =>
    match S, S', hS with
    | [], _, _ => exact RO_n
    | [_], _, _ => exact RO_n
    | v :: w :: S1, v' :: w' :: S1', hS =>
      show RO F T (if v.1 = 1 ∨ w.1 = 1 then none else _) (if v'.1 = 1 ∨ w'.1 = 1 then none else _)
      rw [hS.1.1, hS.2.1.1]
      exact RO_e (fun _ => RO_n) fun _ => RO_s hL ⟨hS.1, hS.2.1, hS⟩ hc hM
    | _ :: _ :: _, [_], hS => exact hS.2.elim
  case pop =>
    match S, S', hS with
    | [], _, _ => exact RO_n
    | v :: S1, v' :: S1', hS =>
      show RO F T (if v.1 = 1 then none else _) (if v'.1 = 1 then none else _)
      rw [hS.1.1]
      exact RO_e (fun _ => RO_n) fun _ => RO_s hL hS.2 hc hM
  case getfield =>
    refine RO_pc hS fun o S1 S1' h => RO_lk hF fun kd e => RO_i (fun h => h) fun hq => ?_
    have g := hM _ _ e _ hq.2.2.2
    refine RO_e (fun _ => ?_) (fun _ => RO_s hL ⟨⟨rfl, g⟩, h⟩ hc hM)
    by_cases hn : nnI (rd M o.toNat b) = true
    · have := nnI_ok hn g
      rw [if_pos hn, if_neg (by omega)]
      exact RO_s hL ⟨⟨rfl, g⟩, h⟩ hc hM
    · rw [if_neg hn]; exact RO_n
  case putfield =>
    exact RO_pp hS fun v _ y _ g h => RO_pc h fun o _ _ h1 => RO_lk hF fun kd e => RO_i (fun hq => ⟨hq.1, hq.2.1, hq.2.2.1, hq.2.2.2.1, fun z => in01_ok (hq.2.2.2.2.1 z) g, fun z => nnI_ok (hq.2.2.2.2.2 z) g⟩) fun _ => RO_s hL h1 hc (gm_up hF hT e hM g)
  case arraylength => exact RO_pc hS fun o _ _ h => RO_lk hF fun kd e => RO_i (fun h => h) fun _ => RO_s hL ⟨⟨rfl, gi_1⟩, h⟩ hc hM
  case iaload => exact RO_pc hS fun i _ _ h => RO_pc h fun o _ _ h1 => RO_lk hF fun kd e => RO_i (fun h => h) fun hq => RO_s hL ⟨⟨rfl, hM _ _ e _ hq.2.2⟩, h1⟩ hc hM
  case laload => exact RO_pc hS fun i _ _ h => RO_pc h fun o _ _ h1 => RO_lk hF fun kd e => RO_i (fun h => h) fun hq => RO_s hL ⟨⟨rfl, hM _ _ e _ hq.2.2.2⟩, h1⟩ hc hM
  case baload => exact RO_pc hS fun i _ _ h => RO_pc h fun o _ _ h1 => RO_lk hF fun kd e => RO_i (fun h => h) fun hq => RO_s hL ⟨⟨rfl, hM _ _ e _ hq.2.2.2⟩, h1⟩ hc hM
  case aaload => exact RO_pc hS fun i _ _ h => RO_pc h fun o _ _ h1 => RO_lk hF fun kd e => RO_i (fun hq => ⟨hq.1, hq.2.1, hq.2.2.1, hq.2.2.2.1, hq.2.2.2.2.1, nnI_ok hq.2.2.2.2.2 (hM _ _ e _ hq.2.2.2.2.1)⟩) fun hq => RO_s hL ⟨⟨rfl, hM _ _ e _ hq.2.2.2.2.1⟩, h1⟩ hc hM
  case iastore => exact RO_pp hS fun v _ y _ g h0 => RO_pc h0 fun i _ _ h => RO_pc h fun o _ _ h1 => RO_lk hF fun kd e => RO_i (fun h => h) fun hq => RO_s hL h1 hc (gm_up hF hT e hM g)
  case lastore => exact RO_pp hS fun v _ y _ g h0 => RO_pc h0 fun i _ _ h => RO_pc h fun o _ _ h1 => RO_lk hF fun kd e => RO_i (fun h => h) fun hq => RO_s hL h1 hc (gm_up hF hT e hM g)
  case bastore =>
    refine RO_pp hS fun v _ y _ g h0 => RO_pc h0 fun i _ _ h => RO_pc h fun o _ _ h1 => RO_lk hF fun kd e => RO_i (fun hq => ⟨hq.1, hq.2.1, hq.2.2.1, hq.2.2.2.imp (fun z => z) (fun z => ⟨z.1, in01_ok z.2 g⟩)⟩) fun hq => RO_s hL h1 hc (gm_up hF hT e hM ?_)
    by_cases hk : kd.1 = 102
    · rw [if_pos hk, if_pos hk]; exact un_ok g
    · rw [if_neg hk, if_neg hk]; exact g
  case aastore => exact RO_pc hS fun v _ _ h0 => RO_pc h0 fun i _ _ h => RO_pc h fun o _ _ h1 => RO_lk hF fun kd e => RO_lk hF fun kv e2 => RO_i (fun h => h) fun hq => RO_s hL h1 hc (gm_up hF hT e hM gi_1)
  case newarray =>
    refine RO_pc hS fun n S1 S1' h => RO_o fun k hk => ?_
    refine RO_i (fun hq => ⟨hq.1, hq.2.1, by rw [tk_len hc]; exact hq.2.2.1⟩) fun hq => ?_
    rw [tk_len hc, tk_push (hF _ _ hq.2.2.2)]
    exact RO_s hL ⟨⟨rfl, gi_1⟩, h⟩ (tk_lt (hF _ _ hq.2.2.2)) (gm_new hF hT hq.2.2.2 hM fun _ => gi_1)
  case anewarray =>
    refine RO_pc hS fun n S1 S1' h => ?_
    refine RO_i (fun hq => ⟨hq.1, hq.2.1, by rw [tk_len hc]; exact hq.2.2.1, hq.2.2.2.1, hq.2.2.2.2.1⟩) fun hq => ?_
    rw [tk_len hc, tk_push (hF _ _ hq.2.2.2.2.2)]
    exact RO_s hL ⟨⟨rfl, gi_1⟩, h⟩ (tk_lt (hF _ _ hq.2.2.2.2.2)) (gm_new hF hT hq.2.2.2.2.2 hM fun _ => gi_1)
  case new =>
    refine RO_i (fun hq => ⟨hq.1, by rw [tk_len hc]; exact hq.2.1⟩) fun hq => ?_
    rw [tk_len hc, tk_push (hF _ _ hq.2.2)]
    exact RO_s hL ⟨⟨rfl, gi_1⟩, hS⟩ (tk_lt (hF _ _ hq.2.2)) (gm_new hF hT hq.2.2 hM fun _ => gi_1)
  case invokestatic => exact RO_i (fun h => h) fun _ => spcI_ok hF hT hL hS hc hM
  case invokespecial => exact RO_i (fun h => h) fun _ => spcI_ok hF hT hL hS hc hM
  case invokevirtual => exact RO_i (fun h => h) fun _ => spcI_ok hF hT hL hS hc hM
  all_goals exact RO_n
end IV
