/-! a call of an own method, by its contract -/
section SO9
variable {p : Program} {l : Launch} {e : Env} {R : Room} {s : State} {m : MethodId} {args : Array Value} {below : List Frame} {meth : Method} {c : Code} {H : Heap} {locs : List Loc} {cells slots : Nat} {Q : State → Prop}
variable {G : GG} {M : MR} {pc nx b cw w : Nat} {a : Int} {L S : List AV} {sh : List Kd} {mm : Mm} {ls : Array Slot} {k0 s0 : Nat}
theorem mtdOk_of {own : String} {i : Nat} {a : Int} {b cw w : Nat} (h : mtdOk own i a b cw w = true) (h0 : 0 ≤ a) : ∃ M : MR, mtab[a.toNat]? = some M ∧ b = M.2.2.2.2.1.1 ∧ (Cond.methodLink own i M.1 ∈ lw_tbl ∨ Cond.methodLinkNest own i M.1 "NeckRider" ∈ lw_tbl) ∧ a < 316 := by
  unfold mtdOk at h
  rw [if_pos h0] at h
  split at h
  · rename_i M hM
    simp only [Bool.and_eq_true, beq_iff_eq, decide_eq_true_eq] at h
    refine ⟨M, hM, h.1.2, ?_, h.1.1⟩
    have h2 := wAt_in h.2
    split at h2
    · exact Or.inr h2
    · exact Or.inl h2
  · cases h
theorem stack_split (G : GG) (S : List AV) (n : Nat) : S.map (tv G) = ((S.take n).reverse.map (tv G)).reverse ++ (S.drop n).map (tv G) := by
  rw [← List.map_reverse, List.reverse_reverse, ← List.map_append, List.take_append_drop]
theorem rr_f {d x : Nat} (h : d + 6 ≤ x) : (d + 5) + 1 ≤ x := h
theorem rr_lo {d x y : Nat} (h : x ≤ 40) (h2 : 60 * (d + 6) ≤ y) : 8 + (x + 11) + 60 * (d + 5) ≤ y := by
  have e : 60 * (d + 6) = 60 * (d + 5) + 60 := Nat.mul_succ 60 (d + 5)
  rw [e] at h2
  generalize 60 * (d + 5) = z at h2 ⊢
  omega
theorem cw_static {M' : MR} {idx : Nat} {own : String} {d mc ms np : Nat} (hts : ∀ w ∈ lwG, w.before args s = true) (hl : Cond.methodLink own idx M'.1 ∈ lw_tbl) (h1 : Cond.code M'.1 M'.2.1 M'.2.2.1 M'.2.2.2.1 ∈ lw_tbl) (h2 : Cond.static M'.1 ∈ lw_tbl) (h3 : Cond.initialized M'.1.cls ∈ lw_tbl)
    (hd : M'.1.cls ≠ "java/lang/invoke/MethodHandle" ∧ M'.1.cls ≠ "java/lang/invoke/VarHandle" ∧ (parseMethodDescriptor M'.1.desc).map (fun d => d.parameters.length) = some np) (hR : (d + 5) + 1 ≤ R.frames ∧ 8 + (M'.2.2.1 + 11) + 60 * (d + 5) ≤ R.locals) :
    CallB R s args own idx M'.1 M'.2.1 M'.2.2.1 M'.2.2.2.1 (wsM M') { frames := d + 5, cells := mc, slots := ms, locals := 60 * (d + 5) } mc ms np ∧ (Cond.static M'.1).before args s = true :=
  va_cwS np hts (goodG (fun w hw => by
    unfold va_wsS at hw
    rcases List.mem_append.mp hw with hw | hw
    · simp only [List.mem_cons, List.not_mem_nil, or_false] at hw
      rcases hw with rfl | rfl | rfl
      · exact lwG_in hl rfl
      · exact lwG_in h2 rfl
      · exact lwG_in h3 rfl
    · exact wsM_in h1 w hw)) rfl rfl rfl hd hR
set_option maxHeartbeats 4000000 in
/-- the call -/
theorem s_own {r : Row} {d : Nat} {v : AV} {sh' : List Kd} {mm' : Mm} (hC : CX p s m args meth c M) (hE : EN G s) (hO : SO G s s.heap) (hr : rowOk M.1.cls (decide (M.1.name = "<init>")) M.2.1 pc (M.2.1.data.toList.drop pc) r = true)
    (hL : LvOk G ls M.2.2.1 L) (hH : HR G sh mm s H locs) (hc1 : cells + k0 = sh.length) (hc2 : slots + s0 = tot sh) (h0 : s.heap.size + 1 = G.1 + k0) (hk0 : 1 ≤ k0)
    (ha : 0 ≤ r.2.2.1) (hk : r.2.2.1.toNat < 316) (hn : mA r.2.2.1.toNat ≤ S.length) (hcs : csum (S.drop (mA r.2.2.1.toNat)) ≤ 8) (hrc : rcv r.2.2.1.toNat (S.take (mA r.2.2.1.toNat)).reverse sh = true) (hsy : styOk r.1 r.2.2.1.toNat = true)
    {M' : MR} (hM' : mtab[r.2.2.1.toNat]? = some M') (hM : Ctr l G d M' (S.take (mA r.2.2.1.toNat)).reverse sh mm v sh' mm') (hf : d + 6 ≤ R.frames) (hlo : 60 * (d + 6) ≤ R.locals) (hm1 : sh.length ≤ sh'.length) (hm2 : tot sh ≤ tot sh') (hce : sh'.length ≤ R.cells + k0) (hsl : tot sh' ≤ R.slots + s0)
    (kk : ∀ (H1 : Heap) (locs1 : List Loc), okv v → HR G sh' mm' s H1 locs1 → W p l e R s m args below meth c H1 locs1 (cells + (sh'.length - sh.length)) (slots + (tot sh' - tot sh)) Q (F0 m r.2.1 ls ((pushv v (S.drop (mA r.2.2.1.toNat))).map (tv G)))) :
    W p l e R s m args below meth c H locs cells slots Q (F0 m pc ls (S.map (tv G))) := by
  obtain ⟨ins, nx, a, b, cw, w⟩ := r
  dsimp only at ha hk hn hcs hrc hsy hM' hM kk
  obtain ⟨f1, f2, f3, f4, f5, f6, f7, f8, f9, f10, f11, f12, f13, f14⟩ := mr_facts hk hM'
  refine W_size (fun hsz => ?_)
  have hz := HR_size hH h0 hk0 hc1 hsz
  rw [stack_split G S (mA a.toNat)]
  have hlen : (S.take (mA a.toNat)).reverse.length = mA a.toNat := by rw [List.length_reverse, List.length_take, Nat.min_eq_left hn]
  generalize (S.take (mA a.toNat)).reverse = As at hrc hM hlen ⊢
  generalize hrest : S.drop (mA a.toNat) = rest at hcs kk ⊢
  have hroom : (List.map (fun v => v.category) (rest.map (tv G))).sum ≤ 8 := by rw [csum_tv]; exact hcs
  have hRR : (d + 5) + 1 ≤ R.frames ∧ 8 + (M'.2.2.1 + 11) + 60 * (d + 5) ≤ R.locals := ⟨rr_f hf, rr_lo f9 hlo⟩
  have hff : cells + (sh'.length - sh.length) ≤ R.cells ∧ slots + (tot sh' - tot sh) ≤ R.slots := ⟨by omega, by omega⟩
  have hpin : ∀ U : State, U.heap = H → s.WarmedH U.vm → va_Pc (As.map (tv G)) (Pin G sh mm) (As.map (tv G)).toArray U := fun U hU hW => ⟨rfl, HR_pin hE hO hH hz hU hW⟩
  cases ins
  case invokestatic i =>
    obtain ⟨hdg, hnx, hrl⟩ := row_dg (n := 2) hr rfl
    change decode M.2.1 pc = .ok (_, 3) at hdg
    change nx = pc + 3 at hnx
    subst hnx
    obtain ⟨M2, g1, g2, g3, -⟩ := mtdOk_of (show mtdOk M.1.cls i a b cw w = true from hrl) ha
    obtain rfl : M' = M2 := Option.some.inj (hM'.symm.trans g1)
    have hs0 : mS a.toNat = 0 := by unfold styOk at hsy; simpa using hsy
    rw [if_pos hs0] at f2 f11
    have hl2 : (As.map (tv G)).length = M'.2.2.2.2.1.1 := by rw [List.length_map, hlen, f11]
    rcases g3 with g3 | g3
    · exact run_on hH (va_runS (As := As.map (tv G)) (rest := rest.map (tv G)) ⟨hC.1, hC.2.1, hC.2.2.1, hC.2.2.2.1, hC.2.2.2.2.1⟩ hM (cw_static hC.2.2.2.2.1 g3 f1 f2 f4 ⟨f5, f6, f7⟩ hRR) ⟨FB_pin, hpin⟩ rfl hl2 hL.2.1 rfl (lv_room hroom) hdg hff) kk
    · exact run_on hH (va_runSN (As := As.map (tv G)) (rest := rest.map (tv G)) ⟨hC.1, hC.2.1, hC.2.2.1, hC.2.2.2.1, hC.2.2.2.2.1⟩ hM ⟨va_cnB M'.2.2.2.2.1.1 hC.2.2.2.2.1 (goodG (wsM_in f1)) rfl rfl rfl (hE.2.2.2.1 _ _ _ _ g3) (hC.2.2.2.2.1 _ (lwG_in f4 rfl)) ⟨f5, f6, f7⟩ hRR, hC.2.2.2.2.1 _ (lwG_in f2 rfl), trivial⟩ ⟨FB_pin, hpin⟩ rfl hl2 hL.2.1 rfl (lv_room hroom) hdg hff) kk
  case invokespecial i =>
    obtain ⟨hdg, hnx, hrl⟩ := row_dg (n := 2) hr rfl
    change decode M.2.1 pc = .ok (_, 3) at hdg
    change nx = pc + 3 at hnx
    subst hnx
    obtain ⟨M2, g1, g2, g3, -⟩ := mtdOk_of (show mtdOk M.1.cls i a b cw w = true from hrl) ha
    obtain rfl : M' = M2 := Option.some.inj (hM'.symm.trans g1)
    have hs0 : mS a.toNat = 2 := by unfold styOk at hsy; simpa using hsy
    rw [if_neg (by omega)] at f2 f11
    have hini := (f12 hs0).1
    have hret : M'.2.2.2.1 = none := (f12 hs0).2
    unfold rcv at hrc
    rw [if_neg (by omega), if_pos hs0] at hrc
    cases As with
    | nil => cases hrc
    | cons v0 As' =>
      have hv0 : v0.1 = 2 := by simpa using hrc
      have hl2 : (As'.map (tv G)).length = M'.2.2.2.2.1.1 := by rw [List.length_map]; rw [List.length_cons, f11] at hlen; omega
      have hst : ((v0 :: As').map (tv G)).reverse ++ rest.map (tv G) = (As'.map (tv G)).reverse ++ .ref (adr G v0.2.toNat) :: rest.map (tv G) := by
        rw [List.map_cons, List.reverse_cons, List.append_assoc]
        have : tv G v0 = .ref (adr G v0.2.toNat) := by unfold tv; rw [if_neg (by omega), if_neg (by omega), if_pos hv0]
        rw [this]; rfl
      have hav : (v0 :: As').map (tv G) = .ref (adr G v0.2.toNat) :: As'.map (tv G) := by
        rw [List.map_cons]
        have : tv G v0 = .ref (adr G v0.2.toNat) := by unfold tv; rw [if_neg (by omega), if_neg (by omega), if_pos hv0]
        rw [this]
      rw [hst]
      unfold Ctr at hM
      rw [hav] at hM hpin
      rcases g3 with g3 | g3
      · exact run_on hH (va_runI (b := adr G v0.2.toNat) (As := As'.map (tv G)) (rest := rest.map (tv G)) (bytes := M'.2.1) (maxL := M'.2.2.1) ⟨hC.1, hC.2.1, hC.2.2.1, hC.2.2.2.1, hC.2.2.2.2.1⟩ hM (cwI M'.2.2.2.2.1.1 hC.2.2.2.2.1 (goodG (wsM_in f1)) (by unfold wsM; rw [hret]) rfl rfl (hC.2.2.2.2.1 _ (lwG_in f4 rfl)) (hC.2.2.2.2.1 _ (lwG_in g3 rfl)) (hC.2.2.2.2.1 _ (lwG_in f2 rfl)) hini ⟨f5, f6, f7⟩ hRR) ⟨FB_pin, hpin⟩ rfl hl2 hL.2.1 rfl (lv_room hroom) hdg hff) kk
      · exact run_on hH (va_runIN (b := adr G v0.2.toNat) (As := As'.map (tv G)) (rest := rest.map (tv G)) (bytes := M'.2.1) (maxL := M'.2.2.1) ⟨hC.1, hC.2.1, hC.2.2.1, hC.2.2.2.1, hC.2.2.2.2.1⟩ hM ⟨va_cnB M'.2.2.2.2.1.1 hC.2.2.2.2.1 (goodG (wsM_in f1)) (by unfold wsM; rw [hret]) rfl rfl (hE.2.2.2.1 _ _ _ _ g3) (hC.2.2.2.2.1 _ (lwG_in f4 rfl)) ⟨f5, f6, f7⟩ hRR, hini, hC.2.2.2.2.1 _ (lwG_in f2 rfl)⟩ ⟨FB_pin, hpin⟩ rfl hl2 hL.2.1 rfl (lv_room hroom) hdg hff) kk
  case invokevirtual i =>
    obtain ⟨hdg, hnx, hrl⟩ := row_dg (n := 2) hr rfl
    change decode M.2.1 pc = .ok (_, 3) at hdg
    change nx = pc + 3 at hnx
    subst hnx
    obtain ⟨M2, g1, g2, g3, -⟩ := mtdOk_of (show mtdOk M.1.cls i a b cw w = true from hrl) ha
    obtain rfl : M' = M2 := Option.some.inj (hM'.symm.trans g1)
    have hs0 : mS a.toNat = 1 := by unfold styOk at hsy; simpa using hsy
    rw [if_neg (by omega)] at f2 f11
    have hsel := f3 hs0
    obtain ⟨C, hC1, hC2⟩ := f14 hs0
    unfold rcv at hrc
    rw [if_pos hs0] at hrc
    cases As with
    | nil => cases hrc
    | cons v0 As' =>
      simp only [Bool.and_eq_true, beq_iff_eq, decide_eq_true_eq] at hrc
      obtain ⟨⟨hv0, hv1⟩, hv2⟩ := hrc
      split at hv2
      rotate_left
      · cases hv2
      rename_i kd hkd
      simp only [Bool.and_eq_true, beq_iff_eq, decide_eq_true_eq] at hv2
      have hl2 : (As'.map (tv G)).length = M'.2.2.2.2.1.1 := by rw [List.length_map]; rw [List.length_cons, f11] at hlen; omega
      have hra : tv G v0 = .ref (G.1 + (v0.2.toNat - 1)) := by
        have := ref_adr (G := G) hv1 hkd hH.2.2.2.2.2
        rw [← this, ← hv0]
      have hst : ((v0 :: As').map (tv G)).reverse ++ rest.map (tv G) = (As'.map (tv G)).reverse ++ .ref (G.1 + (v0.2.toNat - 1)) :: rest.map (tv G) := by
        rw [List.map_cons, List.reverse_cons, List.append_assoc, hra]; rfl
      have hav : (v0 :: As').map (tv G) = .ref (G.1 + (v0.2.toNat - 1)) :: As'.map (tv G) := by
        rw [List.map_cons, hra]
      rw [hst]
      unfold Ctr at hM
      rw [hav] at hM hpin
      have hW := wsO_get G mm (o := v0.2.toNat) (by omega) hkd
      rw [ent_obj G (kd := kd) _ hv2.2] at hW
      rw [← hv2.1] at hC1
      have hcell := va_recv hE.1 hH.1 (cls_at hC1) hW
      dsimp only at hcell
      rw [hC2] at hcell
      rcases g3 with g3 | g3
      · exact run_on hH (va_runV (b := G.1 + (v0.2.toNat - 1)) (As := As'.map (tv G)) (rest := rest.map (tv G)) (C := M'.1.cls) ⟨hC.1, hC.2.1, hC.2.2.1, hC.2.2.2.1, hC.2.2.2.2.1⟩ hM (cwV M'.2.2.2.2.1.1 hC.2.2.2.2.1 (goodG (fun w hw => by
          unfold wsV at hw
          rcases List.mem_append.mp hw with hw | hw
          · simp only [List.mem_cons, List.not_mem_nil, or_false] at hw
            rcases hw with rfl | rfl | rfl | rfl
            · exact lwG_in g3 rfl
            · exact lwG_in f2 rfl
            · exact lwG_in hsel rfl
            · exact lwG_in f4 rfl
          · exact wsM_in f1 w hw)) rfl rfl rfl ⟨rfl, f5, f6, f7⟩ hRR) ⟨FB_pin, hcell, hpin⟩ rfl hl2 hL.2.1 rfl (lv_room hroom) hdg hff) kk
      · exact run_on hH (va_runVN (b := G.1 + (v0.2.toNat - 1)) (As := As'.map (tv G)) (rest := rest.map (tv G)) (C := M'.1.cls) ⟨hC.1, hC.2.1, hC.2.2.1, hC.2.2.2.1, hC.2.2.2.2.1⟩ hM ⟨va_cnB M'.2.2.2.2.1.1 hC.2.2.2.2.1 (goodG (wsM_in f1)) rfl rfl rfl (hE.2.2.2.1 _ _ _ _ g3) (hC.2.2.2.2.1 _ (lwG_in f4 rfl)) ⟨f5, f6, f7⟩ hRR, hC.2.2.2.2.1 _ (lwG_in f2 rfl), hC.2.2.2.2.1 _ (lwG_in hsel rfl)⟩ ⟨FB_pin, hcell, hpin⟩ rfl hl2 hL.2.1 rfl (lv_room hroom) hdg hff) kk
  all_goals (simp [styOk] at hsy)
end SO9
