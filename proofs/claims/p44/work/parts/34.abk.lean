/-! an instruction of the checker is sound: all -/
section AK
variable {W : List Nat} {T : List Kd} {m : Mm} {G' : List AV} {ρ : Nat → Int} {nid nx pc : Nat} {L S G : List SV} {L' S' : List AV} {a : Int}
theorem spS_ok (hT : ∀ o, 0 < o → o < 213 → T[o]? = some (tyK (tyO o))) (hn : 0 < nid) (hL : gSL ρ nid L L') (hS : gSL ρ nid S S') (hG : gSL ρ nid G G') (hm : Gam m) : RA W T m G' (spS W nx a L S G nid) (spc nx a L' S' T m) := by
  unfold spS spc
  simp only [Option.bind_eq_bind]
  by_cases a1 : a = -1
  · rw [if_neg (by omega), if_neg (by omega), if_neg (by omega), if_neg (by omega), if_neg (by omega), if_neg (by omega)]; exact RA_n
  rw [if_neg a1]
  by_cases a2 : a = -2
  · rw [if_pos a2, if_pos a2]
    refine RA_pp (by decide) hS fun n S1 vn S1' tn gn h1 => RA_pp (by decide) h1 fun dp S2 vd S2' td gd h2 => RA_pp (by decide) h2 fun g S3 vg S3' tg gg h3 => RA_pp (by decide) h3 fun sp S4 vs S4' tsp gsp h4 => RA_pp (by decide) h4 fun f S5 vf S5' tf gf h5 => ?_
    obtain ⟨f1, f2, f3, f4⟩ := ob_sh hT gf tf
    obtain ⟨g1, g2, g3, g4⟩ := ob_sh hT gg tg
    have hnn := (gq_0 tn).mp gn.1
    have hdd := (gq_0 td).mp gd.1
    have hss := (gq_0 tsp).mp gsp.1
    dsimp only at hnn hdd hss
    have hcs := csumS_ok h5
    dsimp only
    refine RA_lk f3 (RA_lk g3 (RA_i (fun hc => ⟨by omega, f1, g1, hc.2.1, hc.2.2.1, by omega, by omega, by omega, by omega, by omega⟩) fun hc => ?_))
    obtain ⟨c1, c2, c3, c4, c5, c6, c7, c8, c9, c10⟩ := hc
    split at c10
    · rename_i q hq
      split at c10
      · rename_i q' hq'
        refine RA_1 hn hL h5 hG ?_ ?_
        · intro p p1 p2 j hj
          dsimp only
          by_cases e : p = vg.toNat
          · rw [if_pos e]
            by_cases e2 : vd.toNat ≤ j ∧ j < vd.toNat + vn.toNat
            · rw [if_pos e2]
              have h6 := hm vf.toNat (by omega) f2 (vs.toNat + (j - vd.toNat)) (by rw [f4]; omega)
              rw [f4, cU_ok hq] at h6
              rw [e, g4, cU_ok hq']
              have h7 : q.1 = 0 ∨ q.1 = 1 ∨ q.1 = 2 := by
                unfold gc at h6
                split at h6
                · rename_i z; exact Or.inl z
                · rename_i z; exact Or.inr (Or.inl z)
                · rename_i z; exact Or.inr (Or.inr z)
                · exact h6.elim
              exact leC_ok c10 (gc_gq h6 rfl)
            · rw [if_neg e2]; exact hm p p1 p2 j hj
          · rw [if_neg e]; exact hm p p1 p2 j hj
        · intro p j hp
          dsimp only
          by_cases e : p = vg.toNat
          · rw [e, g4, if_neg (by omega), c9] at hp
            cases hp
          · rw [if_neg e]
      · cases c10
    · cases c10
  rw [if_neg a2, if_neg a2]
  by_cases a3 : a = -3
  · rw [if_pos a3, if_pos a3]
    refine RA_pp (by decide) hS fun y _ b _ t1 g1 h1 => RA_pp (by decide) h1 fun x _ c _ t2 g2 h2 => RA_i (fun h => Nat.le_trans (csumS_ok h2) h) fun _ => RA_1 hn hL ⟨gs_0 hn ((gq_0 rfl).mpr ?_), h2⟩ hG hm Fr_rf
    have e1 := (gq_0 t1).mp g1.1
    have e2 := (gq_0 t2).mp g2.1
    dsimp only at e1 e2 ⊢
    exact ⟨rfl, by omega, by omega⟩
  rw [if_neg a3, if_neg a3]
  by_cases a4 : a = -4
  · rw [if_pos a4, if_pos a4]
    refine RA_pp (by decide) hS fun y _ b _ t1 g1 h1 => RA_pp (by decide) h1 fun x _ c _ t2 g2 h2 => RA_i (fun h => Nat.le_trans (csumS_ok h2) h) fun _ => RA_1 hn hL ⟨gs_0 hn ((gq_0 rfl).mpr ?_), h2⟩ hG hm Fr_rf
    have e1 := (gq_0 t1).mp g1.1
    have e2 := (gq_0 t2).mp g2.1
    dsimp only at e1 e2 ⊢
    exact ⟨rfl, by omega, by omega⟩
  rw [if_neg a4, if_neg a4]
  by_cases a5 : a = -5
  · rw [if_pos a5, if_pos a5]
    refine RA_pp (by decide) hS fun y _ b _ t1 g1 h1 => RA_pp (by decide) h1 fun x _ c _ t2 g2 h2 => RA_i (fun h => Nat.le_trans (csumS_ok h2) h) fun _ => RA_1 hn hL ⟨gs_0 hn ((gq_1 rfl).mpr ?_), h2⟩ hG hm Fr_rf
    have e1 := (gq_1 t1).mp g1.1
    have e2 := (gq_1 t2).mp g2.1
    dsimp only at e1 e2 ⊢
    exact ⟨rfl, by omega, by omega⟩
  rw [if_neg a5, if_neg a5]
  by_cases a6 : a = -6
  · rw [if_pos a6, if_pos a6]
    refine RA_p3 hS fun o S1 v S1' t1 e1 h1 => ?_
    dsimp only
    cases e : slen o.1.2.1.toNat with
    | none => exact RA_n
    | some k =>
      show RA W T m G' (if csumS S1 ≤ 8 ∧ 0 ≤ o.1.2.1 then _ else none) _
      refine RA_ii fun hc => ?_
      rw [show v.toNat - 1000000 = o.1.2.1.toNat by omega, e]
      show RA W T m G' _ (if csum S1' ≤ 8 ∧ 1000000 ≤ v then _ else none)
      rw [if_pos ⟨Nat.le_trans (csumS_ok h1) hc.1, by omega⟩]
      exact RA_1 hn hL ⟨gs_0 hn ((gq_0 rfl).mpr ⟨rfl, Int.le_refl _, Int.le_refl _⟩), h1⟩ hG hm Fr_rf
  rw [if_neg a6, if_neg a6]
  by_cases a7 : a = -7
  · rw [if_pos a7, if_pos a7]
    refine RA_pp (by decide) hS fun i S0 iv S0' ti gi h0 => RA_p3 h0 fun o S1 v S1' t1 e1 h1 => ?_
    have hi := (gq_0 ti).mp gi.1
    dsimp only at hi ⊢
    cases e : slen o.1.2.1.toNat with
    | none => exact RA_n
    | some k =>
      show RA W T m G' (if csumS S1 ≤ 8 ∧ 0 ≤ o.1.2.1 ∧ 0 ≤ i.1.2.1 ∧ i.1.2.2 < (k : Int) then _ else none) _
      refine RA_ii fun hc => ?_
      rw [show v.toNat - 1000000 = o.1.2.1.toNat by omega]
      unfold slen at e
      obtain ⟨t, ht, hk⟩ := Option.map_eq_some_iff.mp e
      have hlt : iv.toNat < t.toList.length := by
        rw [String.length_toList, hk]; omega
      have hsc : sch o.1.2.1.toNat iv.toNat = some ((t.toList[iv.toNat].toNat : Nat) : Int) := by
        unfold sch
        rw [ht]
        dsimp only
        rw [List.getElem?_eq_getElem hlt]
        rfl
      rw [hsc]
      show RA W T m G' _ (if csum S1' ≤ 8 ∧ 1000000 ≤ v ∧ 0 ≤ iv then _ else none)
      rw [if_pos ⟨Nat.le_trans (csumS_ok h1) hc.1, by omega, by omega⟩]
      refine RA_1 hn hL ⟨gs_0 hn ((gq_0 rfl).mpr ⟨rfl, by dsimp only; omega, ?_⟩), h1⟩ hG hm Fr_rf
      have h9 := st_small o.1.2.1.toNat t ht iv.toNat hlt
      dsimp only
      omega
  rw [if_neg a7]
  exact RA_n
theorem tsw_ok {L S G : List SV} : ∀ (offs : List Int) (ss : List StA), tsw pc L S G nid offs = some ss → ∀ off ∈ offs, 0 ≤ (pc : Int) + off ∧ (((pc : Int) + off).toNat, L, S, G, nid) ∈ ss := by
  intro offs
  induction offs with
  | nil => intro ss _ off h; cases h
  | cons o l ih =>
    intro ss h off ho
    unfold tsw at h
    split at h
    · rename_i hp
      split at h
      · rename_i r hr
        cases h
        rcases List.mem_cons.mp ho with e | e
        · subst e; exact ⟨hp, List.mem_cons_self⟩
        · obtain ⟨h1, h2⟩ := ih r hr off e
          exact ⟨h1, List.mem_cons_of_mem _ h2⟩
      · cases h
    · cases h
theorem ts1_ok {d lo hi : Int} {offs : Array Int} (hn : 0 < nid) (hL : gSL ρ nid L L') (hS : gSL ρ nid S S') (hG : gSL ρ nid G G') (hm : Gam m) : RA W T m G' (ts1 pc d lo hi offs L S G nid) ((pp 0 S').bind fun q => if q.1 < lo ∨ hi < q.1 then (if 0 ≤ (pc : Int) + d then some (((pc : Int) + d).toNat, L', q.2, T, m) else none) else (offs[(q.1 - lo).toNat]?).bind fun off => if 0 ≤ (pc : Int) + off then some (((pc : Int) + off).toNat, L', q.2, T, m) else none) := by
  refine RA_pp (by decide) hS fun x S1 v S1' tx g h => ?_
  have hx := (gq_0 tx).mp g.1
  dsimp only at hx ⊢
  have fin : ∀ (l : List Int) (off : Int), off ∈ l → RA W T m G' (tsw pc L S1 G nid l) (if 0 ≤ (pc : Int) + off then some (((pc : Int) + off).toNat, L', S1', T, m) else none) := by
    intro l off ho ss hss
    obtain ⟨h1, h2⟩ := tsw_ok l ss hss off ho
    rw [if_pos h1]
    exact ⟨_, h2, _, rfl, ρ, hn, rfl, hL, h, hG, rfl, hm, Fr_rf⟩
  by_cases e : x.1.2.1 = x.1.2.2
  · rw [if_pos e]
    obtain rfl : v = x.1.2.1 := by omega
    by_cases e2 : x.1.2.1 < lo ∨ hi < x.1.2.1
    · rw [if_pos e2, if_pos e2]
      exact fin [d] d List.mem_cons_self
    · rw [if_neg e2, if_neg e2]
      cases e3 : offs[(x.1.2.1 - lo).toNat]? with
      | none => exact RA_n
      | some off => exact fin [off] off List.mem_cons_self
  · rw [if_neg e]
    refine RA_ii fun hc => ?_
    by_cases e2 : v < lo ∨ hi < v
    · rw [if_pos e2]
      exact fin _ d List.mem_cons_self
    · rw [if_neg e2]
      have hl : (v - lo).toNat < offs.toList.length := by omega
      have e3 : offs[(v - lo).toNat]? = some offs.toList[(v - lo).toNat] := by
        rw [← Array.getElem?_toList, List.getElem?_eq_getElem hl]
      rw [e3]
      exact fin _ _ (List.mem_cons_of_mem _ (List.getElem_mem hl))
theorem bs1_ok (hT : ∀ o, 0 < o → o < 213 → T[o]? = some (tyK (tyO o))) (hn : 0 < nid) (hL : gSL ρ nid L L') (hS : gSL ρ nid S S') (hG : gSL ρ nid G G') (hm : Gam m) :
    RA W T m G' (bs1 W nx L S G nid) ((pp 0 S').bind fun v => (pp 0 v.2).bind fun i => (pp 2 i.2).bind fun q => (T[q.1.toNat]?).bind fun kd => if 0 < q.1 ∧ 0 ≤ i.1 ∧ i.1.toNat < kd.2 ∧ (kd.1 = 102 ∨ (kd.1 = 103 ∧ (v.1 = 0 ∨ v.1 = 1))) then some (nx, L', q.2, T, nu_up m q.1.toNat i.1.toNat (if kd.1 = 102 then b8 v.1 else v.1)) else none) := by
  refine RA_pp (by decide) hS fun v Sv w Sv' tv gv hv => RA_pp (by decide) hv fun iv S1 i S1' ti gi h0 => RA_pp (by decide) h0 fun x S2 o S2' tx g h => ?_
  obtain ⟨h1, h2, h3, h4⟩ := ob_sh hT g tx
  have hi := (gq_0 ti).mp gi.1
  have hw := (gq_0 tv).mp gv.1
  dsimp only at hi hw
  refine RA_lk h3 (RA_i (fun hc => ⟨h1, by omega, by omega, hc.2.2.2.imp (fun z => z.1) (fun z => ⟨z.1, by dsimp only; omega⟩)⟩) fun hc => RA_1 hn hL h hG (Gam_up hm ?_) (Fr_up ?_))
  · rw [h4]
    rcases hc.2.2.2 with z | z
    · rw [if_pos z.1]
      have h5 := b8_in w
      exact sd_ok hc.1 hi.2.1 hi.2.2 z.2 ((gq_0 (q := (0, -128, 127)) rfl).mpr ⟨rfl, h5.1, h5.2⟩ : gq0 (0, -128, 127) (0, b8 w))
    · rw [if_neg (by omega)]
      exact sd_ok hc.1 hi.2.1 hi.2.2 z.2.2.2 gv.1
  · rw [h4, if_neg (by rcases hc.2.2.2 with z | z <;> omega)]; exact hc.2.2.1
end AK
