/-! contracts of the second tier: with what holds of the reference's rows, and of its ways once they are laid -/
def XT : List Nat := [91999, 92999, 97999, 98999]
def WyT : List Nat := [91999, 97999]
/-- a world: paths join unlike places, acts are such, of hours that differ -/
def WOK (w : Nat → Int) : Prop := (∀ k : Nat, k < 10 → (k : Int) < w 4 → ¬ w (11 + 2 * k) = w (12 + 2 * k)) ∧ (∀ k : Nat, k < 12 → (k : Int) < w 8 → 1 ≤ w (57 + k) % 100 ∧ w (57 + k) % 100 ≤ 16) ∧ (∀ i k : Nat, i < k → k < 12 → (k : Int) < w 8 → ¬ w (57 + i) / 100 = w (57 + k) / 100)
/-- who is on a bearer is in a place -/
def ROK (m : Mm) : Prop := ∀ h : Nat, h ≤ 12 → m 200 (16 * h + 1) = -1 ∨ 0 ≤ m 200 (16 * h)
def Ext (m : Mm) : Prop := WOK (m 193) ∧ (∀ k : Nat, k < 3 → WOK (fun i => m 194 (69 * k + i))) ∧ ROK m
def FAR : Int := 1000000000
def adjW (w : Nat → Int) (a b : Nat) : Prop := ∃ k : Nat, k < 10 ∧ (k : Int) < w 4 ∧ ((w (11 + 2 * k) = a ∧ w (12 + 2 * k) = b) ∨ (w (11 + 2 * k) = b ∧ w (12 + 2 * k) = a))
/-- d tells least ways -/
def Wy (n : Int) (adj : Nat → Nat → Prop) (d : Nat → Nat → Int) : Prop :=
  (∀ a : Nat, a < 7 → d a a = 0) ∧ (∀ a b : Nat, a < 7 → b < 7 → ¬ a = b → 1 ≤ d a b) ∧ (∀ a b : Nat, a < 7 → b < 7 → adj a b → d a b = 1)
    ∧ (∀ a b c : Nat, (a : Int) < n → (b : Int) < n → (c : Int) < n → d a b ≤ d a c + d c b)
    ∧ (∀ a b : Nat, a < 7 → b < 7 → ¬ a = b → d a b < FAR → ∃ c : Nat, c < 7 ∧ adj a c ∧ d c b = d a b - 1)
def FS (m : Mm) : Prop := Wy (m 193 0) (adjW (m 193)) (fun a b => m 199 (7 * a + b))
def cells_eq (m m' : Mm) (o : Nat) : Prop := ∀ i, m' o i = m o i
theorem Fr_cell {W : List Nat} {m m' : Mm} {o : Nat} (h : Fr W m m') (hw : W.contains (tyO o * 1000 + 999) = false) (hk : (tyK (tyO o)).1 < 100 → False) : cells_eq m m' o := fun i => h o i (by rw [if_neg hk]; exact hw)
theorem all_ct {W L : List Nat} {x : Nat} (h : W.all (fun w => !L.contains w) = true) (hx : L.contains x = true) : W.contains x = false := by
  cases e : W.contains x with
  | false => rfl
  | true =>
    have := List.all_eq_true.mp h x (List.contains_iff_mem.mp e)
    rw [hx] at this
    cases this
theorem Ext_fr {W : List Nat} {m m' : Mm} (h : Fr W m m') (hw : W.all (fun w => !XT.contains w) = true) (e : Ext m) : Ext m' := by
  have e1 : m' 193 = m 193 := funext (Fr_cell (o := 193) h (all_ct hw (by decide)) (by decide))
  have e2 : m' 194 = m 194 := funext (Fr_cell (o := 194) h (all_ct hw (by decide)) (by decide))
  have e3 : m' 200 = m 200 := funext (Fr_cell (o := 200) h (all_ct hw (by decide)) (by decide))
  unfold Ext ROK at *
  rw [e1, e2, e3]
  exact e
theorem FS_fr {W : List Nat} {m m' : Mm} (h : Fr W m m') (hw : W.all (fun w => !WyT.contains w) = true) (e : FS m) : FS m' := by
  have e1 : m' 193 = m 193 := funext (Fr_cell (o := 193) h (all_ct hw (by decide)) (by decide))
  have e2 : m' 199 = m 199 := funext (Fr_cell (o := 199) h (all_ct hw (by decide)) (by decide))
  unfold FS at *
  rw [e1, e2]
  exact e
theorem nXF {W : List Nat} (hw : W.all (fun w => !XT.contains w) = true) : W.all (fun w => !WyT.contains w) = true := by
  rw [List.all_eq_true] at hw ⊢
  intro x hx
  have := hw x hx
  simp only [XT, WyT, List.contains_cons, List.contains_nil, Bool.or_false, Bool.not_eq_true', Bool.or_eq_false_iff, beq_eq_false_iff_ne] at this ⊢
  exact ⟨this.1, this.2.2.1⟩
def xtW (W : List Nat) : List Nat := W.filter (fun w => !XT.contains w)
theorem xtW_all (W : List Nat) : (xtW W).all (fun w => !XT.contains w) = true := by
  rw [List.all_eq_true]
  intro x hx
  exact (List.mem_filter.mp hx).2
theorem xtW_sub {W : List Nat} {m m' : Mm} (h : Fr (xtW W) m m') : Fr W m m' := Fr_mono (fun x hx => List.contains_iff_mem.mpr (List.mem_filter.mp (List.contains_iff_mem.mp hx)).1) h
def ConX (T : List Kd) (c : Con) (n g : Bool) : Prop := ∀ (args : List AV) (m : Mm), F2 gq0 c.2.1 args → Gam m → Ext m → (n = true → FS m) → ∃ (v : AV) (m' : Mm), Rn c.2.2.2.2 c.1 0 (layp args (mL c.1)) [] T m (v, T, m') ∧ gR c.2.2.1 v ∧ Gam m' ∧ Ext m' ∧ Fr c.2.2.2.1 m m' ∧ (g = true → FS m')
/-- flags of contracts: in the second tier, needs ways, gives ways -/
abbrev Fg : Type := Nat → Bool × Bool × Bool
def ConOK2 (Fl : Fg) (C : List Con) (T : List Kd) (k : Nat) : Prop := ∀ c, C[k]? = some c → ConX T c (Fl k).2.1 (Fl k).2.2
/-- annotations, calls, places where ways are laid -/
abbrev Cer2 : Type := List AnA × List (Nat × Nat) × List Nat
def ent2 (an : List AnA) (fl : List Nat) (b0 : Int) (cs0 : List Int) (pc : Nat) (L S G : List SV) (fs : Bool) (z : Bool) : Bool := match fdA an pc with
  | some A => entA A b0 cs0 L S G && (!fl.contains pc || fs)
  | none => z
def seg2 (Fl : Fg) (C : List Con) (j : Nat) (W : List Nat) (ret : Q) (dep idx : Nat) (gv : Bool) (an : List AnA) (cl : List (Nat × Nat)) (fl : List Nat) (b0 : Int) (cs0 : List Int) : Nat → Nat → List SV → List SV → List SV → Nat → Bool → Bool
  | 0, _, _, _, _, _, _ => false
  | n + 1, pc, L, S, G, nid, fs =>
    match row j pc with
    | none => false
    | some r =>
      if isRet r.1 then rtS j r.1 S ret && (!gv || fs)
      else if isCall r.1 && decide (0 ≤ r.2.2.1) then
        (match fdC cl pc with
        | none => false
        | some k => (match C[k]? with
          | none => false
          | some c => Nat.blt k idx && ((Fl k).1 || c.2.2.2.1.all (fun w => !XT.contains w)) && (!(Fl k).2.1 || fs) && (c.1 == r.2.2.1.toNat) && Nat.blt c.2.2.2.2 dep && c.2.2.2.1.all (fun x => W.contains x) && Nat.ble (mA c.1) S.length && Nat.ble (csumS (S.drop (mA c.1))) 8 && Nat.ble (layN (S.take (mA c.1)).reverse) (mL c.1) && rcS c.1 (S.take (mA c.1)).reverse && styOk r.1 c.1 && leL (S.take (mA c.1)).reverse c.2.1
            && ent2 an fl b0 cs0 r.2.1 L (if c.2.2.1.1 = 9 then S.drop (mA c.1) else sv0 c.2.2.1 :: S.drop (mA c.1)) G ((Fl k).2.2 || (fs && c.2.2.2.1.all (fun w => !WyT.contains w)))
              (seg2 Fl C j W ret dep idx gv an cl fl b0 cs0 n r.2.1 L (if c.2.2.1.1 = 9 then S.drop (mA c.1) else sv0 c.2.2.1 :: S.drop (mA c.1)) G nid ((Fl k).2.2 || (fs && c.2.2.2.1.all (fun w => !WyT.contains w))))))
      else (match stA1 (xtW W) pc r L S G nid with
        | none => false
        | some ss => ss.all (fun s => ent2 an fl b0 cs0 s.1 s.2.1 s.2.2.1 s.2.2.2.1 fs (seg2 Fl C j W ret dep idx gv an cl fl b0 cs0 n s.1 s.2.1 s.2.2.1 s.2.2.2.1 s.2.2.2.2 fs)))
def okA2 (Fl : Fg) (C : List Con) (j : Nat) (W : List Nat) (ret : Q) (dep idx : Nat) (gv : Bool) (an : List AnA) (cl : List (Nat × Nat)) (fl : List Nat) (A : AnA) : Bool :=
  cfk A.2.2.2.2 (iniL A.2.1 1) && decide (0 ≤ A.2.2.2.1 + lbr A.2.2.2.2 (iniL A.2.1 1)) && seg2 Fl C j W ret dep idx gv an cl fl A.2.2.2.1 A.2.2.2.2 600 A.1 (iniL A.2.1 1) (A.2.2.1.map sv0) (iniL A.2.1 1) (A.2.1.length + 1) (fl.contains A.1)
def okC2 (Fl : Fg) (C : List Con) (idx : Nat) (e : Cer2) : Bool := match C[idx]? with
  | none => false
  | some c => (match fdA e.1 0 with
    | some A => leL (laypS (c.2.1.map sv0) (mL c.1)) A.2.1 && A.2.2.1.isEmpty && c.2.1.all (fun q => Nat.ble q.1 3) && (!e.2.2.contains 0 || (Fl idx).2.1)
    | none => false) && e.1.all (fun A => okA2 Fl C c.1 c.2.2.2.1 c.2.2.1 c.2.2.2.2 idx (Fl idx).2.2 e.1 e.2.1 e.2.2 A)
def GoX (T : List Kd) (dep j : Nat) (ret : Q) (W : List Nat) (gv : Bool) (m0 : Mm) (pc : Nat) (L' S' : List AV) (m : Mm) : Prop := ∃ (v : AV) (m' : Mm), Rn dep j pc L' S' T m (v, T, m') ∧ gR ret v ∧ Gam m' ∧ Ext m' ∧ Fr W m0 m' ∧ (gv = true → FS m')
section CM2
variable {C : List Con} {T : List Kd} {ρ : Nat → Int} {nid : Nat}
set_option maxHeartbeats 2000000 in
theorem seg2_ok {Fl : Fg} {j : Nat} {W : List Nat} {ret : Q} {dep idx : Nat} {gv : Bool} {an : List AnA} {cl : List (Nat × Nat)} {fl : List Nat} {b0 : Int} {cs0 : List Int} {G0 : List AV} {m0 : Mm} (hT : ∀ o, 0 < o → o < 213 → T[o]? = some (tyK (tyO o))) (hc : ∀ k, k < idx → (Fl k).1 = false → ConOK C T k) (hc2 : ∀ k, k < idx → (Fl k).1 = true → ConOK2 Fl C T k) (hz : ∀ k, (Fl k).1 = false → (Fl k).2.1 = false ∧ (Fl k).2.2 = false)
    (hA : ∀ (pc : Nat) (A : AnA), fdA an pc = some A → ∀ (L' S' : List AV) (m : Mm), F2 gq0 A.2.1 L' → F2 gq0 A.2.2.1 S' → A.2.2.2.1 + rkS A.2.2.2.2 L' < b0 + rkS cs0 G0 → Gam m → Ext m → Fr W m0 m → (fl.contains pc = true → FS m) → GoX T dep j ret W gv m0 pc L' S' m) :
    ∀ (n pc : Nat) (L S G : List SV) (nid : Nat) (fs : Bool) (ρ : Nat → Int) (L' S' : List AV) (m : Mm), seg2 Fl C j W ret dep idx gv an cl fl b0 cs0 n pc L S G nid fs = true → 0 < nid → gSL ρ nid L L' → gSL ρ nid S S' → gSL ρ nid G G0 → Gam m → Ext m → Fr W m0 m → (fs = true → FS m) → GoX T dep j ret W gv m0 pc L' S' m := by
  intro n
  induction n with
  | zero => intro pc L S G nid fs ρ L' S' m h; cases h
  | succ n ih =>
    intro pc L S G nid fs ρ L' S' m h hn hL hS hG hm hx hf hfs
    have go : ∀ (pc2 : Nat) (L S G : List SV) (nid : Nat) (fs : Bool) (ρ : Nat → Int) (L' S' : List AV) (m : Mm), ent2 an fl b0 cs0 pc2 L S G fs (seg2 Fl C j W ret dep idx gv an cl fl b0 cs0 n pc2 L S G nid fs) = true → 0 < nid → gSL ρ nid L L' → gSL ρ nid S S' → gSL ρ nid G G0 → Gam m → Ext m → Fr W m0 m → (fs = true → FS m) → GoX T dep j ret W gv m0 pc2 L' S' m := by
      intro pc2 L S G nid fs ρ L' S' m h hn hL hS hG hm hx hf hfs
      unfold ent2 at h
      split at h
      · rename_i A hA2
        rw [Bool.and_eq_true] at h
        obtain ⟨e1, e2, e3⟩ := entA_ok h.1 hL hS hG
        refine hA pc2 A hA2 L' S' m e1 e2 e3 hm hx hf (fun z => hfs ?_)
        have h2 := h.2
        rw [z] at h2
        simpa using h2
      · exact ih _ _ _ _ _ _ _ _ _ _ h hn hL hS hG hm hx hf hfs
    unfold seg2 at h
    split at h
    · cases h
    rename_i r hr
    split at h
    · rename_i h1
      rw [Bool.and_eq_true] at h
      obtain ⟨v, e1, e2⟩ := rtS_ok h.1 hS
      refine ⟨v, m, Rn_ret hr h1 e1, e2, hm, hx, hf, fun z => hfs ?_⟩
      have h2 := h.2
      rw [z] at h2
      simpa using h2
    rename_i h1
    have h1' : isRet r.1 = false := by simpa using h1
    split at h
    · rename_i h2
      split at h
      · cases h
      split at h
      · cases h
      rename_i k hfk _ c hk
      simp only [Bool.and_eq_true, beq_iff_eq] at h
      obtain ⟨⟨⟨⟨⟨⟨⟨⟨⟨⟨⟨⟨a1, b1⟩, b2⟩, a2⟩, a3⟩, a4⟩, a5⟩, a6⟩, a7⟩, a8⟩, a9⟩, a10⟩, a11⟩ := h
      have hlt : k < idx := by
        unfold Nat.blt at a1
        exact Nat.le_of_ble_eq_true a1
      have hdp : c.2.2.2.2 < dep := by
        unfold Nat.blt at a3
        exact Nat.le_of_ble_eq_true a3
      have hAr := F2_rev (F2_take (n := mA c.1) hS)
      have hDr := F2_drop (n := mA c.1) hS
      have hcall : ∃ (v : AV) (m1 : Mm), Rn c.2.2.2.2 c.1 0 (layp (S'.take (mA c.1)).reverse (mL c.1)) [] T m (v, T, m1) ∧ gR c.2.2.1 v ∧ Gam m1 ∧ Ext m1 ∧ Fr c.2.2.2.1 m m1 ∧ (((Fl k).2.2 || (fs && c.2.2.2.1.all (fun w => !WyT.contains w))) = true → FS m1) := by
        cases e : (Fl k).1 with
        | false =>
          rw [e, Bool.false_or] at b1
          obtain ⟨v, m1, q1, q2, q3, q4⟩ := hc k hlt e c hk (S'.take (mA c.1)).reverse m (leL_ok a10 hAr) hm
          refine ⟨v, m1, q1, q2, q3, Ext_fr q4 b1 hx, q4, fun z => ?_⟩
          rw [(hz k e).2, Bool.false_or, Bool.and_eq_true] at z
          exact FS_fr q4 z.2 (hfs z.1)
        | true =>
          obtain ⟨v, m1, q1, q2, q3, q4, q5, q6⟩ := hc2 k hlt e c hk (S'.take (mA c.1)).reverse m (leL_ok a10 hAr) hm hx (fun z => hfs (by rw [z] at b2; simpa using b2))
          refine ⟨v, m1, q1, q2, q3, q4, q5, fun z => ?_⟩
          rw [Bool.or_eq_true, Bool.and_eq_true] at z
          rcases z with z | z
          · exact q6 z
          · exact FS_fr q5 z.2 (hfs z.1)
      obtain ⟨v, m1, q1, q2, q3, q3x, q4, q4f⟩ := hcall
      have q5 : Fr W m0 m1 := Fr_tr hf (Fr_mono (fun x hx => by
        have := List.all_eq_true.mp a4 x (List.contains_iff_mem.mp hx)
        exact this) q4)
      have hgo : GoX T dep j ret W gv m0 r.2.1 L' (pushv v (S'.drop (mA c.1))) m1 := by
        refine go r.2.1 L _ G nid _ ρ L' _ m1 a11 hn hL ?_ hG q3 q3x q5 q4f
        unfold gR at q2
        unfold pushv
        by_cases e : c.2.2.1.1 = 9
        · rw [if_pos e] at q2 ⊢
          rw [if_pos q2]
          exact hDr
        · rw [if_neg e] at q2 ⊢
          have : v.1 = c.2.2.1.1 := gs_tag (ρ := ρ) (n := 1) (s := sv0 c.2.2.1) (gs_0 (by decide) q2.2) q2.1
          rw [if_neg (by omega)]
          exact ⟨gs_0 hn q2.2, hDr⟩
      obtain ⟨v2, m2, p1, p2⟩ := hgo
      refine ⟨v2, m2, ?_, p2⟩
      obtain ⟨d', rfl⟩ : ∃ d', dep = d' + 1 := ⟨dep - 1, by omega⟩
      have q6 := Rn_d1 (k := d' - c.2.2.2.2) q1
      rw [show c.2.2.2.2 + (d' - c.2.2.2.2) = d' by omega] at q6
      rw [a2] at q6 p1 hAr hDr a5 a6 a7 a8 a9
      refine Rn_call hr h1' h2 ⟨?_, ?_, ?_, ?_, a9⟩ q6 p1
      · rw [F2_len hS]; exact Nat.le_of_ble_eq_true a5
      · exact Nat.le_trans (csumS_ok hDr) (Nat.le_of_ble_eq_true a6)
      · exact Nat.le_trans (layN_ok hAr) (Nat.le_of_ble_eq_true a7)
      · exact rcS_ok hT a8 hAr
    · rename_i h2
      have h2' : (isCall r.1 && decide (0 ≤ r.2.2.1)) = false := by simpa using h2
      split at h
      · cases h
      rename_i ss hss
      obtain ⟨s, hs, q', e0, ρ', e1, e2, e3, e4, e5, e6, e7, e8⟩ := stA1_ok (W := xtW W) hT hn hL hS hG hm ss hss
      have h3 := List.all_eq_true.mp h s hs
      obtain ⟨v, m2, p1, p2⟩ := go s.1 s.2.1 s.2.2.1 s.2.2.2.1 s.2.2.2.2 fs ρ' _ _ _ h3 e1 e3 e4 e5 e7 (Ext_fr e8 (xtW_all W) hx) (Fr_tr hf (xtW_sub e8)) (fun z => FS_fr e8 (nXF (xtW_all W)) (hfs z))
      refine ⟨v, m2, Rn_step hr h1' h2' e0 ?_, p2⟩
      rw [e2, e6]
      exact p1
theorem okC2_ok {Fl : Fg} {idx : Nat} {e : Cer2} (hT : ∀ o, 0 < o → o < 213 → T[o]? = some (tyK (tyO o))) (h : okC2 Fl C idx e = true) (hc : ∀ k, k < idx → (Fl k).1 = false → ConOK C T k) (hc2 : ∀ k, k < idx → (Fl k).1 = true → ConOK2 Fl C T k) (hz : ∀ k, (Fl k).1 = false → (Fl k).2.1 = false ∧ (Fl k).2.2 = false) : ConOK2 Fl C T idx := by
  intro c hci args m0 hargs hm0 hx0 hfs0
  unfold okC2 at h
  rw [hci] at h
  dsimp only at h
  rw [Bool.and_eq_true] at h
  obtain ⟨h0, h1⟩ := h
  have key : ∀ (N : Nat) (pc : Nat) (A : AnA), fdA e.1 pc = some A → ∀ (L' S' : List AV) (m : Mm), F2 gq0 A.2.1 L' → F2 gq0 A.2.2.1 S' → (A.2.2.2.1 + rkS A.2.2.2.2 L').toNat < N → Gam m → Ext m → Fr c.2.2.2.1 m0 m → (e.2.2.contains pc = true → FS m) → GoX T c.2.2.2.2 c.1 c.2.2.1 c.2.2.2.1 (Fl idx).2.2 m0 pc L' S' m := by
    intro N
    induction N with
    | zero => intro pc A _ L' S' m _ _ hN; omega
    | succ N ihN =>
      intro pc A hA L' S' m hL hS hN hm hx hf hfs
      have hmem := List.mem_of_find?_eq_some hA
      have hpc : A.1 = pc := by
        have := List.find?_some hA
        simpa using this
      have hok := List.all_eq_true.mp h1 A hmem
      unfold okA2 at hok
      simp only [Bool.and_eq_true, decide_eq_true_eq] at hok
      obtain ⟨⟨k1, k2⟩, k3⟩ := hok
      have hG : gSL (fun id => (L'.getD (id - 1) (9, 0)).2) (A.2.1.length + 1) (iniL A.2.1 1) L' := by
        refine iniL_ok hL (Nat.le_refl _) (by omega) fun k v hv => ?_
        show (L'.getD (1 + k - 1) (9, 0)).2 = v.2
        rw [show 1 + k - 1 = k by omega, List.getD_eq_getElem?_getD, hv]
        rfl
      have hS2 : gSL (fun id => (L'.getD (id - 1) (9, 0)).2) (A.2.1.length + 1) (A.2.2.1.map sv0) S' := F2_map (fun a b g => gs_0 (Nat.succ_pos _) g) hS
      rw [← hpc] at hfs ⊢
      refine seg2_ok hT hc hc2 hz ?_ _ _ _ _ _ _ _ _ _ _ _ k3 (Nat.succ_pos _) hG hS2 hG hm hx hf hfs
      intro pc2 A2 hA2 L2 S2 m2 g1 g2 g3 g4 g5 g6 g7
      refine ihN pc2 A2 hA2 L2 S2 m2 g1 g2 ?_ g4 g5 g6 g7
      have hmem2 := List.mem_of_find?_eq_some hA2
      have hok2 := List.all_eq_true.mp h1 A2 hmem2
      unfold okA2 at hok2
      simp only [Bool.and_eq_true, decide_eq_true_eq] at hok2
      obtain ⟨⟨n1, n2⟩, -⟩ := hok2
      have hG2 : gSL (fun id => (L2.getD (id - 1) (9, 0)).2) (A2.2.1.length + 1) (iniL A2.2.1 1) L2 := by
        refine iniL_ok g1 (Nat.le_refl _) (by omega) fun k v hv => ?_
        show (L2.getD (1 + k - 1) (9, 0)).2 = v.2
        rw [show 1 + k - 1 = k by omega, List.getD_eq_getElem?_getD, hv]
        rfl
      have hb2 := lbr_ok n1 hG2
      omega
  split at h0
  · rename_i A hA
    rw [Bool.and_eq_true, Bool.and_eq_true, Bool.and_eq_true] at h0
    obtain ⟨⟨⟨z1, z2⟩, z3⟩, z4⟩ := h0
    have hl : gSL (fun _ => 0) 1 (laypS (c.2.1.map sv0) (mL c.1)) (layp args (mL c.1)) := by
      have hla := lay_args (fun _ => 0) hargs z3
      unfold laypS layp
      rw [F2_len hla]
      exact F2_app hla (gs_rep (by decide))
    have hS : F2 gq0 A.2.2.1 [] := by
      rw [List.isEmpty_iff] at z2
      rw [z2]; trivial
    refine key _ 0 A hA _ [] m0 (leL_ok z1 hl) hS (Nat.lt_succ_self _) hm0 hx0 Fr_rf (fun z => hfs0 ?_)
    rw [z] at z4
    simpa using z4
  · cases h0
end CM2
/-! a contract out of others that split one of its arguments -/
def covX (Fl : Fg) (C : List Con) (idx : Nat) (c : Con) (p : Nat) (hi : Int) : Int → List Nat → Bool
  | a, [] => decide (hi < a)
  | a, k :: ks => (match C[k]? with
    | none => false
    | some e => Nat.blt k idx && (Fl k).1 && ((Fl k).2.1 == (Fl idx).2.1) && ((Fl k).2.2 == (Fl idx).2.2) && (e.1 == c.1) && leQ e.2.2.1 c.2.2.1 && (e.2.2.1.1 == c.2.2.1.1) && e.2.2.2.1.all (fun x => c.2.2.2.1.contains x) && Nat.ble e.2.2.2.2 c.2.2.2.2
      && (match e.2.1[p]? with
        | none => false
        | some q => (q.1 == 0) && decide (q.2.1 ≤ a) && decide (e.2.1 = c.2.1.set p q) && covX Fl C idx c p hi (q.2.2 + 1) ks))
def okX (Fl : Fg) (C : List Con) (idx p : Nat) (ks : List Nat) : Bool := match C[idx]? with
  | none => false
  | some c => (match c.2.1[p]? with
    | none => false
    | some q => (q.1 == 0) && covX Fl C idx c p q.2.2 q.2.1 ks)
theorem covX_ok {Fl : Fg} {C : List Con} {T : List Kd} {idx p : Nat} {c : Con} {hi x : Int} {args : List AV} {m : Mm} (hc : ∀ k, k < idx → (Fl k).1 = true → ConOK2 Fl C T k) (hargs : F2 gq0 c.2.1 args) (hx : args[p]? = some (0, x)) (hxi : x ≤ hi) (hm : Gam m) (he : Ext m) (hfs : (Fl idx).2.1 = true → FS m) : ∀ (ks : List Nat) (a : Int), a ≤ x → covX Fl C idx c p hi a ks = true → ∃ (v : AV) (m' : Mm), Rn c.2.2.2.2 c.1 0 (layp args (mL c.1)) [] T m (v, T, m') ∧ gR c.2.2.1 v ∧ Gam m' ∧ Ext m' ∧ Fr c.2.2.2.1 m m' ∧ ((Fl idx).2.2 = true → FS m') := by
  intro ks
  induction ks with
  | nil =>
    intro a ha h
    unfold covX at h
    rw [decide_eq_true_eq] at h
    omega
  | cons k ks ih =>
    intro a ha h
    unfold covX at h
    split at h
    · cases h
    rename_i e he2
    simp only [Bool.and_eq_true, beq_iff_eq] at h
    obtain ⟨⟨⟨⟨⟨⟨⟨⟨⟨h1, f1⟩, f2⟩, f3⟩, h2⟩, h3⟩, h4⟩, h5⟩, h6⟩, h7⟩ := h
    split at h7
    · cases h7
    rename_i q hq
    simp only [Bool.and_eq_true, beq_iff_eq, decide_eq_true_eq] at h7
    obtain ⟨⟨⟨k1, k2⟩, k3⟩, k4⟩ := h7
    by_cases hle : x ≤ q.2.2
    · have hlt : k < idx := by
        unfold Nat.blt at h1
        exact Nat.le_of_ble_eq_true h1
      have ha2 : F2 gq0 e.2.1 args := by
        rw [k3]
        refine F2_setl hargs fun b hb => ?_
        rw [hx] at hb
        cases hb
        exact (gq_0 k1).mpr ⟨rfl, by dsimp only; omega, hle⟩
      obtain ⟨v, m', r1, r2, r3, r3x, r4, r5⟩ := hc k hlt f1 e he2 args m ha2 hm he (fun z => hfs (by rw [← f2]; exact z))
      have h6' := Nat.le_of_ble_eq_true h6
      refine ⟨v, m', ?_, ?_, r3, r3x, Fr_mono (fun y hy => List.all_eq_true.mp h5 y (List.contains_iff_mem.mp hy)) r4, fun z => r5 (by rw [f3]; exact z)⟩
      · have := Rn_d1 (k := c.2.2.2.2 - e.2.2.2.2) r1
        rw [show e.2.2.2.2 + (c.2.2.2.2 - e.2.2.2.2) = c.2.2.2.2 by omega, h2] at this
        exact this
      · unfold gR at r2 ⊢
        rw [h4] at r2
        by_cases e9 : c.2.2.1.1 = 9
        · rw [if_pos e9] at r2 ⊢; exact r2
        · rw [if_neg e9] at r2 ⊢
          exact ⟨r2.1, leQ_any h3 r2.2⟩
    · exact ih (q.2.2 + 1) (by omega) k4
theorem okX_ok {Fl : Fg} {C : List Con} {T : List Kd} {idx p : Nat} {ks : List Nat} (h : okX Fl C idx p ks = true) (hc : ∀ k, k < idx → (Fl k).1 = true → ConOK2 Fl C T k) : ConOK2 Fl C T idx := by
  intro c hci args m hargs hm he hfs
  unfold okX at h
  rw [hci] at h
  dsimp only at h
  split at h
  · cases h
  rename_i q hq
  rw [Bool.and_eq_true, beq_iff_eq] at h
  obtain ⟨b, hb, hg⟩ := F2_get hargs hq
  have g := (gq_0 h.1).mp hg
  obtain ⟨b1, b2⟩ := b
  dsimp only at g
  obtain ⟨g1, g2, g3⟩ := g
  subst g1
  exact covX_ok hc hargs hb g3 hm he hfs ks _ g2 h.2
