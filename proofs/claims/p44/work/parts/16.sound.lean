/-! THE SOUNDNESS of the abstract machine: what run gives, the machine does -/
def RunC (l : Launch) (G : GG) (n : Nat) : Prop :=
  ∀ (d j : Nat) (M : MR) (pc : Nat) (L S : List AV) (sh : List Kd) (mm : Mm) (v : AV) (sh' : List Kd) (mm' : Mm), mtab[j]? = some M → run n d j pc L S sh mm = some (v, sh', mm') → okS L → okS S →
    ∀ (p : Program) (e : Env) (R : Room) (s : State) (m : MethodId) (args : Array Value) (below : List Frame) (meth : Method) (c : Code) (H : Heap) (locs : List Loc) (cells slots : Nat) (Q : State → Prop) (ls : Array Slot) (k0 s0 : Nat),
      CX p s m args meth c M → EN G s → SO G s s.heap → LvOk G ls M.2.2.1 L → HR G sh mm s H locs → cells + k0 = sh.length → slots + s0 = tot sh → s.heap.size + 1 = G.1 + k0 → 1 ≤ k0 → d + 5 ≤ R.frames → 60 * (d + 5) ≤ R.locals → sh'.length ≤ R.cells + k0 → tot sh' ≤ R.slots + s0 →
      (∀ (pcr : Nat) (r : Row) (S' : List AV) (ls : Array Slot) (H : Heap) (locs : List Loc) (cells slots : Nat), row j pcr = some r → isRet r.1 = true → retv j r.1 S' = some v → okS S' → HR G sh' mm' s H locs → cells + k0 = sh'.length → slots + s0 = tot sh' → W p l e R s m args below meth c H locs cells slots Q (F0 m pcr ls (S'.map (tv G)))) →
      W p l e R s m args below meth c H locs cells slots Q (F0 m pc ls (S.map (tv G)))
theorem lay_len (G : GG) (As : List AV) : (lg_sl (As.map (tv G))).length = (lay As).length := by
  induction As with
  | nil => rfl
  | cons v vs ih =>
    show ((if (tv G v).category = 2 then [Slot.val (tv G v), Slot.second] else [Slot.val (tv G v)]) ++ lg_sl (vs.map (tv G))).length = (lay (v :: vs)).length
    unfold lay
    by_cases h : v.1 = 1
    · rw [if_pos (tag9.mpr h), if_pos h, List.length_append, ih]
      simp
      omega
    · rw [if_neg (fun z => h (tag9.mp z)), if_neg h, List.length_append, ih]
      simp
      omega
theorem lay_mem (G : GG) (As : List AV) : ∀ (k i : Nat) (a : AV), (lay As)[i]? = some a → a.1 ≠ 9 → (k + i, tv G a) ∈ lv_args k (As.map (tv G)) := by
  induction As with
  | nil => intro k i a h; simp [lay] at h
  | cons v vs ih =>
    intro k i a h ha
    rw [List.map_cons]
    unfold lv_args
    unfold lay at h
    by_cases hv : v.1 = 1
    · rw [if_pos hv] at h
      rw [if_pos (tag9.mpr hv)]
      match i, h with
      | 0, h =>
        simp only [List.getElem?_cons_zero, Option.some.injEq] at h
        subst h
        exact List.mem_cons_self
      | 1, h =>
        simp only [List.getElem?_cons_succ, List.getElem?_cons_zero, Option.some.injEq] at h
        subst h
        exact absurd rfl ha
      | i + 2, h =>
        simp only [List.getElem?_cons_succ] at h
        have := ih (k + 2) i a h ha
        rw [show k + (i + 2) = k + 2 + i by omega]
        exact List.mem_cons_of_mem _ this
    · rw [if_neg hv] at h
      rw [if_neg (fun z => hv (tag9.mp z))]
      match i, h with
      | 0, h =>
        simp only [List.getElem?_cons_zero, Option.some.injEq] at h
        subst h
        exact List.mem_cons_self
      | i + 1, h =>
        simp only [List.getElem?_cons_succ] at h
        have := ih (k + 1) i a h ha
        rw [show k + (i + 1) = k + 1 + i by omega]
        exact List.mem_cons_of_mem _ this
theorem layp_ok (G : GG) {As : List AV} {n : Nat} {ls : Array Slot} (hn : (lay As).length ≤ n) (h : lv_has ls n (lv_args 0 (As.map (tv G)))) : LvOk G ls n (layp As n) := by
  refine ⟨by unfold layp; rw [List.length_append, List.length_replicate]; omega, h.1, h.2.1, fun q hq => ?_⟩
  obtain ⟨i, v⟩ := q
  obtain ⟨a, h1, h2, rfl⟩ := lvl_mem.mp hq
  unfold layp at h1
  by_cases hi : i < (lay As).length
  · rw [List.getElem?_append_left hi] at h1
    have := lay_mem G As 0 i a h1 h2
    rw [Nat.zero_add] at this
    exact h.2.2 _ this
  · rw [List.getElem?_append_right (by omega)] at h1
    have h3 := List.mem_of_getElem? h1
    have h4 := (List.mem_replicate.mp h3).2
    subst h4
    exact absurd rfl h2
theorem okS_layp {As : List AV} {n : Nat} (h : okS As) : okS (layp As n) := by
  have ok9 : okv (9, 0) := ⟨fun q => absurd q (by decide), fun q => absurd q (by decide)⟩
  intro a ha
  unfold layp at ha
  rcases List.mem_append.mp ha with q | q
  · clear ha
    induction As with
    | nil => cases q
    | cons v vs ih =>
      unfold lay at q
      split at q
      · rcases List.mem_cons.mp q with q | q
        · rw [q]; exact okS_hd h
        · rcases List.mem_cons.mp q with q | q
          · rw [q]; exact ok9
          · exact ih (okS_tl h) q
      · rcases List.mem_cons.mp q with q | q
        · rw [q]; exact okS_hd h
        · exact ih (okS_tl h) q
  · rw [(List.mem_replicate.mp q).2]; exact ok9
theorem retv_len {j : Nat} {i : Instr} {S : List AV} {v : AV} (h : retv j i S = some v) (hr : isRet i = true) :
    (i = .ireturn ∧ S = [v] ∧ v.1 = 0 ∧ (mB j = 1 ∨ (mB j = 3 ∧ (v.2 = 0 ∨ v.2 = 1)))) ∨ (i = .lreturn ∧ S = [v] ∧ v.1 = 1 ∧ mB j = 2) ∨ (i = .areturn ∧ S = [v] ∧ v.1 = 2 ∧ mB j = 4) ∨ (i = .return_ ∧ S = [] ∧ v = (9, 0) ∧ mB j = 0) := by
  cases i
  case ireturn =>
    simp only [retv] at h
    split at h
    · rename_i w
      split at h
      · rename_i hc
        cases h
        exact Or.inl ⟨rfl, rfl, hc⟩
      · cases h
    · cases h
  case lreturn =>
    simp only [retv] at h
    split at h
    · rename_i w
      split at h
      · rename_i hc
        cases h
        exact Or.inr (Or.inl ⟨rfl, rfl, hc⟩)
      · cases h
    · cases h
  case areturn =>
    simp only [retv] at h
    split at h
    · rename_i w
      split at h
      · rename_i hc
        cases h
        exact Or.inr (Or.inr (Or.inl ⟨rfl, rfl, hc⟩))
      · cases h
    · cases h
  case return_ =>
    simp only [retv] at h
    split at h
    · split at h
      · rename_i hc
        cases h
        exact Or.inr (Or.inr (Or.inr ⟨rfl, rfl, rfl, hc⟩))
      · cases h
    · cases h
  all_goals cases hr
set_option maxHeartbeats 2000000 in
/-- the contract of a method, out of its run -/
theorem ctr_of {l : Launch} {G : GG} {n d j : Nat} {M : MR} {As : List AV} {sh : List Kd} {mm : Mm} {v : AV} {sh' : List Kd} {mm' : Mm} (hI : RunC l G n) (hj : j < 316) (hM : mtab[j]? = some M) (hn : (lay As).length ≤ mL j) (ho : okS As) (h : run n d j 0 (layp As (mL j)) [] sh mm = some (v, sh', mm')) : Ctr l G d M As sh mm v sh' mm' := by
  obtain ⟨f1, f2, f3, f4, f5, f6, f7, f8, f9, f10, f11, f12, f13, f14⟩ := mr_facts hj hM
  have hmo := run_mono _ _ _ _ _ _ _ _ _ _ _ h
  unfold Ctr
  refine Met.ofW (cc := M.2.1) (maxL := M.2.2.1) (ret := M.2.2.2.1) f8 rfl ?_
  intro p e s m args below meth c s₁ B hml hv
  obtain ⟨rfl, hE, hO, hP, hz, h1, hok, hX, hl⟩ := hv
  have hts := atoms_spec (ws := wsM M) B.pre
  have hlk := B.notSynchronized
  have hr := B.returns
  have hb := B.bytes
  have hx := B.exec
  have hC : CX p s m (As.map (tv G)).toArray meth c M := ⟨hx, hb, hml, findClass_of_methodNamed B.named, fun w hw => hts w (List.mem_cons_of_mem _ hw), fun _ => (name_of_methodNamed B.named B.method).1⟩
  have hH : HR G sh mm s s.heap [] := ⟨hP, va_S.rf, h1, hok, hX, hl⟩
  rw [f10] at hn h
  have hlv := lv_entry (As.map (tv G)) (n := M.2.2.1) (by rw [lay_len]; exact hn)
  rw [lg_entry_eq]
  generalize (lg_sl (As.map (tv G)) ++ List.replicate (M.2.2.1 - (lg_sl (As.map (tv G))).length) Slot.unset).toArray = ls at hlv ⊢
  refine hI d j M 0 (layp As M.2.2.1) [] sh mm v sh' mm' hM h (okS_layp ho) (fun _ hh => by cases hh) p e _ s m _ below meth c s.heap [] 0 0 _ ls sh.length (tot sh) hC hE hO (layp_ok G hn hlv) hH (by omega) (by omega) hz h1 (Nat.le_refl _) (Nat.le_refl _) (by show sh'.length ≤ (sh'.length - sh.length) + sh.length; omega) (by show tot sh' ≤ (tot sh' - tot sh) + tot sh; omega) ?_
  intro pcr r S' ls' H locs cells slots hrow hret hrv hoS hHR hc1 hc2
  obtain ⟨M2, hM2, hrow2⟩ := row_ok hrow
  obtain rfl : M = M2 := Option.some.inj (hM.symm.trans hM2)
  obtain rfl : cells = sh'.length - sh.length := by omega
  obtain rfl : slots = tot sh' - tot sh := by omega
  obtain ⟨ins, nx, a, b, cw, w⟩ := r
  dsimp only at hret hrv
  have hout : ∀ t : State, t.heap = H → Pou G sh mm sh' mm' v s t := by
    intro t ht
    obtain ⟨q1, q2, q3, q4, q5, q6⟩ := hHR
    have hv : okv v := by
      rcases retv_len hrv hret with ⟨-, rfl, -⟩ | ⟨-, rfl, -⟩ | ⟨-, rfl, -⟩ | ⟨-, -, rfl, -⟩
      · exact okS_hd hoS
      · exact okS_hd hoS
      · exact okS_hd hoS
      · exact ⟨fun q => absurd q (by decide), fun q => absurd q (by decide)⟩
    obtain ⟨L1, xs1, y1, y2, y3, y4⟩ := hX
    obtain ⟨L2, xs2, z1, z2, z3, z4⟩ := q5
    refine ⟨by rw [ht]; exact q1, q2.F ht, q4, hv, q3, q6, ?_, ?_, hmo.1, hmo.2⟩
    · exact (run_m0 _ _ _ _ _ _ _ _ _ _ _ h1 h).1
    · exact (run_m0 _ _ _ _ _ _ _ _ _ _ _ h1 h).2
  rcases retv_len hrv hret with ⟨rfl, rfl, hv1, hv2⟩ | ⟨rfl, rfl, hv1, hv2⟩ | ⟨rfl, rfl, hv1, hv2⟩ | ⟨rfl, rfl, rfl, hv2⟩
  · obtain ⟨hdg, -, -⟩ := row_dg (n := 0) hrow2 rfl
    change decode M.2.1 pcr = .ok (_, 1) at hdg
    obtain ⟨t0, x0⟩ := v
    dsimp only at hv1 hv2
    subst hv1
    rcases hv2 with hv2 | ⟨hv2, hv3⟩
    · have hret2 : M.2.2.2.1 = some .int := by
        rcases f13 with ⟨g1, g2⟩ | ⟨g1, g2⟩ | ⟨g1, g2⟩ | ⟨g1, g2⟩ | ⟨z, g1, g2⟩
        · omega
        · exact g1
        · omega
        · omega
        · omega
      exact W.iret (v := Int32.ofInt x0) hx hb (hr.trans hret2) (fun t ht hW => ⟨rfl, hout t ht⟩) hHR.2.1.2.2 hdg (hlocks := hlk)
    · have hret2 : M.2.2.2.1 = some .boolean := by
        rcases f13 with ⟨g1, g2⟩ | ⟨g1, g2⟩ | ⟨g1, g2⟩ | ⟨g1, g2⟩ | ⟨z, g1, g2⟩
        · omega
        · omega
        · omega
        · exact g1
        · omega
      exact W.zret (v := Int32.ofInt x0) hx hb (hr.trans hret2) (by rcases hv3 with rfl | rfl <;> decide) (fun t ht hW => ⟨rfl, hout t ht⟩) hHR.2.1.2.2 hdg (hlocks := hlk)
  · obtain ⟨hdg, -, -⟩ := row_dg (n := 0) hrow2 rfl
    change decode M.2.1 pcr = .ok (_, 1) at hdg
    obtain ⟨t0, x0⟩ := v
    dsimp only at hv1
    subst hv1
    have hret2 : M.2.2.2.1 = some .long := by
      rcases f13 with ⟨g1, g2⟩ | ⟨g1, g2⟩ | ⟨g1, g2⟩ | ⟨g1, g2⟩ | ⟨z, g1, g2⟩
      · omega
      · omega
      · exact g1
      · omega
      · omega
    exact W.lret (v := Int64.ofInt x0) hx hb (hr.trans hret2) (fun t ht hW => ⟨rfl, hout t ht⟩) hHR.2.1.2.2 hdg (hlocks := hlk)
  · obtain ⟨hdg, -, -⟩ := row_dg (n := 0) hrow2 rfl
    change decode M.2.1 pcr = .ok (_, 1) at hdg
    obtain ⟨t0, x0⟩ := v
    dsimp only at hv1
    subst hv1
    obtain ⟨z, hret2⟩ : ∃ z, M.2.2.2.1 = some (.object z) := by
      rcases f13 with ⟨g1, g2⟩ | ⟨g1, g2⟩ | ⟨g1, g2⟩ | ⟨g1, g2⟩ | ⟨z, g1, g2⟩
      · omega
      · omega
      · omega
      · omega
      · exact ⟨z, g1⟩
    exact W.aret (v := .ref (adr G x0.toNat)) hx hb (hr.trans hret2) (Or.inl ⟨z, rfl⟩) (Or.inr ⟨_, rfl⟩) (fun t ht hW => ⟨rfl, hout t ht⟩) hHR.2.1.2.2 hdg (hlocks := hlk)
  · obtain ⟨hdg, -, -⟩ := row_dg (n := 0) hrow2 rfl
    change decode M.2.1 pcr = .ok (_, 1) at hdg
    have hret2 : M.2.2.2.1 = none := by
      rcases f13 with ⟨g1, g2⟩ | ⟨g1, g2⟩ | ⟨g1, g2⟩ | ⟨g1, g2⟩ | ⟨z, g1, g2⟩
      · exact g1
      · omega
      · omega
      · omega
      · omega
    exact W.vret hx hb (hr.trans hret2) (fun t ht hW => ⟨rfl, hout t ht⟩) hHR.2.1.2.2 hdg (hlocks := hlk)
set_option maxHeartbeats 2000000 in
theorem run_sound {l : Launch} {G : GG} (hSL : SLH l G) (hSC : SCH l G) : ∀ n, RunC l G n := by
  intro n
  induction n with
  | zero => intro d j M pc L S sh mm v sh' mm' hM h; cases h
  | succ n ih =>
    intro d j M pc L S sh mm v sh' mm' hM h hoL hoS p e R s m args below meth c H locs cells slots Q ls k0 s0 hC hE hO hL hH hc1 hc2 hz hk0 hf hlo hce hsl hret
    have hmo := run_mono _ _ _ _ _ _ _ _ _ _ _ h
    unfold run at h
    split at h
    · cases h
    rename_i r hr
    obtain ⟨M2, hM2, hrow⟩ := row_ok hr
    obtain rfl : M = M2 := Option.some.inj (hM.symm.trans hM2)
    split at h
    · rename_i hir
      split at h
      · rename_i v2 hv2
        cases h
        exact hret pc r S ls H locs cells slots hr hir hv2 hoS hH hc1 hc2
      · cases h
    split at h
    · rename_i hcall
      simp only [Bool.and_eq_true, decide_eq_true_eq] at hcall
      split at h
      · cases h
      rename_i d'
      split at h
      rotate_left
      · cases h
      rename_i hcond
      obtain ⟨g1, g2, g3, g4, g5⟩ := hcond
      split at h
      · cases h
      rename_i q hq
      obtain ⟨v1, sh1, mm1⟩ := q
      dsimp only at h
      have hm1 := run_mono _ _ _ _ _ _ _ _ _ _ _ hq
      have hm2 := run_mono _ _ _ _ _ _ _ _ _ _ _ h
      have hMk : ∃ M' : MR, mtab[r.2.2.1.toNat]? = some M' ∧ r.2.2.1.toNat < 316 := by
        have hrl : rowL M.1.cls (decide (M.1.name = "<init>")) pc r = true := by
          unfold rowOk at hrow
          simp only [Bool.and_eq_true] at hrow
          exact hrow.2
        obtain ⟨ins, nx, a, b, cw, w⟩ := r
        cases ins <;> first | (cases hcall.1; done) | skip
        all_goals
          obtain ⟨M', z1, -, -, z2⟩ := mtdOk_of hrl hcall.2
          exact ⟨M', z1, by dsimp only; have := hcall.2; dsimp only at this; omega⟩
      obtain ⟨M', hM', hk⟩ := hMk
      have hoA : okS (S.take (mA r.2.2.1.toNat)).reverse := fun a ha => hoS a (List.mem_of_mem_take (List.mem_reverse.mp ha))
      have hctr := ctr_of ih hk hM' g3 hoA hq
      refine s_own hC hE hO hrow hL hH hc1 hc2 hz hk0 hcall.2 hk g1 g2 g4 g5 hM' hctr hf hlo hm1.1 hm1.2 (by omega) (by omega) (fun H1 locs1 hv1 hH1 => ?_)
      refine ih (d' + 1) j M r.2.1 L (pushv v1 (S.drop (mA r.2.2.1.toNat))) sh1 mm1 v sh' mm' hM h hoL ?_ p e R s m args below meth c H1 locs1 _ _ Q ls k0 s0 hC hE hO hL hH1 (by omega) (by omega) hz hk0 hf hlo hce hsl hret
      unfold pushv
      split
      · exact fun a ha => hoS a (List.mem_of_mem_drop ha)
      · exact okS_cons hv1 (fun a ha => hoS a (List.mem_of_mem_drop ha))
    · split at h
      · cases h
      rename_i q hq
      have hm1 := stp_mono hq
      have hm2 := run_mono _ _ _ _ _ _ _ _ _ _ _ h
      refine step_all hz hk0 hSL hSC hC hE hO hrow hq hL hoL hoS hH hc1 hc2 ⟨by omega, by omega, by omega, by omega⟩ ?_
      intro ls1 H1 locs1 cells1 slots1 y1 y2 y3 y4 y5 y6
      exact ih d j M q.1 q.2.1 q.2.2.1 q.2.2.2.1 q.2.2.2.2 v sh' mm' hM h y2 y3 p e R s m args below meth c H1 locs1 cells1 slots1 Q ls1 k0 s0 hC hE hO y1 y4 y5 y6 hz hk0 hf hlo hce hsl hret
