/-! the law, by its run -/
/-- a run of the law of the abstract machine that answers 1 is the law's -/
theorem run_law {p : Program} {e : Env} {s : State} {m : MethodId} {below : List Frame} {meth : Method} {c : Code} (l : Launch) {b L : Nat} {xs : Nat → Int32} (C0 : lw_At p s m meth c b L xs)
    {n : Nat} {mm : Mm} {sh' : List Kd} {mm' : Mm} (hm : ∀ j, j < L → mm 0 j = (xs j).toInt) (h : run n 1000 316 0 (layp [(2, 0)] 4) [] [(100, L)] mm = some ((0, 1), sh', mm')) (h1 : sh'.length ≤ 600001) (h2 : tot sh' ≤ 7302250 + L) :
    W p l e room_1 s m #[Value.ref b] below meth c s.heap [] 0 0 (lw_Z below #[Value.ref b] s) (entryFrame m ([Value.ref b] : List Value).toArray 4) := by
  obtain ⟨hx, hb, hr, hml, ho, hts, hX, hbl, hlk, hg⟩ := C0
  obtain ⟨G, g1, g2, hE, hO⟩ := st_G hts hg
  have hC : CX p s m #[Value.ref b] meth c lawM := ⟨hx, hb, hml, ho, fun w hw => hts w (lwG_good w hw).1, fun z => absurd z (by decide)⟩
  rw [lg_entry_eq]
  have hlv := lv_entry ([((2, 0) : AV)].map (tv G)) (n := 4) (by rw [lay_len]; decide)
  rw [← lw_ent b G g2] at hlv
  generalize (lg_sl [Value.ref b] ++ List.replicate (4 - (lg_sl [Value.ref b]).length) Slot.unset).toArray = ls at hlv ⊢
  rw [lw_ent b G g2] at hlv
  have hL := layp_ok G (As := [(2, 0)]) (n := 4) (by decide) hlv
  have ho0 : okS (layp [(2, 0)] 4) := okS_layp (fun a ha => by
    simp only [List.mem_cons, List.not_mem_nil, or_false] at ha
    subst ha
    exact ⟨fun q => absurd q (by decide), fun q => absurd q (by decide)⟩)
  have hH : HR G [(100, L)] mm s s.heap [] := by
    refine ⟨fun k q hq => ?_, va_S.rf, Nat.le_refl _, fun o kd hk i hi => ?_, ⟨L, xs, rfl, by rw [g2]; exact hX, hm, by rw [g1, g2]; exact hbl, by rw [g1]; exact Nat.le_refl _⟩, by simp⟩
    · unfold wsO at hq; simp at hq
    · match o, hk with
      | 0, hk =>
        cases hk
        show okc (100, L) i (mm 0 i)
        rw [hm i hi]
        unfold okc wide refc
        simp
        exact i32_in _
      | o + 1, hk => simp at hk
  have e0 : ([] : List Value) = ([] : List AV).map (tv G) := rfl
  rw [e0]
  refine run_sound (jc_len) (jc_char) n 1000 316 lawM 0 _ [] [(100, L)] mm _ _ _ law_at h ho0 (fun _ hh => by cases hh) p e room_1 s m #[Value.ref b] below meth c s.heap [] 0 0 _ ls 1 L hC hE hO hL hH rfl (by unfold tot; simp) (by rw [g1]) (Nat.le_refl _) (by decide) (by decide) (by show _ ≤ 600000 + 1; exact h1) (by show _ ≤ 7302250 + L; exact h2) ?_
  intro pcr r S' ls1 H locs cells slots hrow hret hrv hoS hHR hc1 hc2
  obtain ⟨M2, hM2, hrow2⟩ := row_ok hrow
  cases law_at.symm.trans hM2
  obtain ⟨ins, nx, a, b', cw, w⟩ := r
  dsimp only at hret hrv
  rcases retv_len hrv hret with ⟨rfl, rfl, -⟩ | ⟨-, -, q, -⟩ | ⟨-, -, q, -⟩ | ⟨-, -, q, -⟩
  · obtain ⟨hdg, -, -⟩ := row_dg (n := 0) hrow2 rfl
    refine va_forget (fun q hq => ?_) ?_
    · have := hHR.2.1.2.2 q hq
      unfold AZ at this
      omega
    · refine W.widen (k := 600000) (n := 7302250) (by omega) (by omega) ?_
      exact lw_ret hx hb hr hlk hdg
  · cases q
  · cases q
  · cases q
