/-! a run over bounds is a run -/
section RU2
variable {F : Nat → Option Kd} {T : List Kd}
theorem retvI_ok {j : Nat} {i : Instr} {S : List AI} {S' : List AV} {v : AI} (hS : gL S S') (h : retvI j i S = some v) : ∃ v', retv j i S' = some v' ∧ ga v v' := by
  cases i
  case ireturn =>
    match S, S', hS with
    | [], _, _ => cases h
    | _ :: _ :: _, _, _ => cases h
    | [a], [b], hS =>
      change (if a.1 = 0 ∧ (mB j = 1 ∨ (mB j = 3 ∧ in01 a.2 = true)) then some a else none) = some v at h
      show ∃ v', (if b.1 = 0 ∧ (mB j = 1 ∨ (mB j = 3 ∧ (b.2 = 0 ∨ b.2 = 1))) then some b else none) = some v' ∧ _
      split at h
      · rename_i hc
        cases h
        refine ⟨b, if_pos ⟨hS.1.1.trans hc.1, hc.2.imp (fun z => z) fun z => ⟨z.1, in01_ok z.2 hS.1.2⟩⟩, hS.1⟩
      · cases h
    | [_], [], hS => exact hS.elim
    | [_], _ :: _ :: _, hS => exact hS.2.elim
  case lreturn =>
    match S, S', hS with
    | [], _, _ => cases h
    | _ :: _ :: _, _, _ => cases h
    | [a], [b], hS =>
      change (if a.1 = 1 ∧ mB j = 2 then some a else none) = some v at h
      show ∃ v', (if b.1 = 1 ∧ mB j = 2 then some b else none) = some v' ∧ _
      split at h
      · rename_i hc
        cases h
        refine ⟨b, if_pos ⟨hS.1.1.trans hc.1, hc.2⟩, hS.1⟩
      · cases h
    | [_], [], hS => exact hS.elim
    | [_], _ :: _ :: _, hS => exact hS.2.elim
  case areturn =>
    match S, S', hS with
    | [], _, _ => cases h
    | _ :: _ :: _, _, _ => cases h
    | [a], [b], hS =>
      change (if a.1 = 2 ∧ mB j = 4 then some a else none) = some v at h
      show ∃ v', (if b.1 = 2 ∧ mB j = 4 then some b else none) = some v' ∧ _
      split at h
      · rename_i hc
        cases h
        refine ⟨b, if_pos ⟨hS.1.1.trans hc.1, hc.2⟩, hS.1⟩
      · cases h
    | [_], [], hS => exact hS.elim
    | [_], _ :: _ :: _, hS => exact hS.2.elim
  case return_ =>
    match S, S', hS with
    | _ :: _, _, _ => cases h
    | [], [], _ =>
      change (if mB j = 0 then some ((9, none) : AI) else none) = some v at h
      show ∃ v', (if mB j = 0 then some ((9, 0) : AV) else none) = some v' ∧ _
      split at h
      · rename_i hc
        cases h
        exact ⟨_, if_pos hc, rfl, gi_n⟩
      · cases h
    | [], _ :: _, hS => exact hS.elim
  all_goals cases h
theorem rcvI_ok {k c : Nat} {As : List AI} {As' : List AV} (hF : FT F T) (hA : gL As As') (h : rcvI F k As c = true) : rcv k As' (T.take c) = true := by
  unfold rcvI at h
  unfold rcv
  by_cases h1 : mS k = 1
  · rw [if_pos h1] at h ⊢
    match As, As', hA with
    | [], _, _ => cases h
    | a :: _, b :: _, hA =>
      simp only [Bool.and_eq_true, beq_iff_eq] at h
      obtain ⟨h2, h3⟩ := h
      split at h3
      · rename_i o ho
        have := cst_ok ho hA.1.2
        simp only [Bool.and_eq_true, decide_eq_true_eq] at h3
        obtain ⟨h4, h5⟩ := h3
        simp only [Bool.and_eq_true, beq_iff_eq, decide_eq_true_eq]
        refine ⟨⟨hA.1.1.trans h2, by omega⟩, ?_⟩
        rw [this]
        split at h5
        · rename_i kd hkd
          rw [lk_sh hF hkd]
          simp only [Bool.and_eq_true, beq_iff_eq, decide_eq_true_eq] at h5 ⊢
          exact h5
        · cases h5
      · cases h3
    | _ :: _, [], hA => exact hA.elim
  · rw [if_neg h1] at h ⊢
    by_cases h2 : mS k = 2
    · rw [if_pos h2] at h ⊢
      match As, As', hA with
      | [], _, _ => cases h
      | a :: _, b :: _, hA =>
        simp only [beq_iff_eq] at h ⊢
        exact hA.1.1.trans h
      | _ :: _, [], hA => exact hA.elim
    · rw [if_neg h2]
theorem gL_push {v : AI} {v' : AV} {S : List AI} {S' : List AV} (h : ga v v') (hS : gL S S') : gL (pushI v S) (pushv v' S') := by
  unfold pushI pushv
  rw [h.1]
  by_cases e : v.1 = 9
  · rw [if_pos e, if_pos e]; exact hS
  · rw [if_neg e, if_neg e]; exact ⟨h, hS⟩
/-- more fuel does no harm -/
theorem run_none {n d j pc : Nat} {L S : List AV} {sh : List Kd} {m : Mm} (hx : row j pc = none) : run (n + 1) d j pc L S sh m = none := by
  unfold run; rw [hx]
theorem run_some {n d j pc : Nat} {L S : List AV} {sh : List Kd} {m : Mm} {x : Row} (hx : row j pc = some x) : run (n + 1) d j pc L S sh m =
      if isRet x.1 then (match retv j x.1 S with
        | some v => some (v, sh, m)
        | none => none)
      else if isCall x.1 && decide (0 ≤ x.2.2.1) then
        (match d with
        | 0 => none
        | d' + 1 =>
          if mA x.2.2.1.toNat ≤ S.length ∧ csum (S.drop (mA x.2.2.1.toNat)) ≤ 8 ∧ (lay (S.take (mA x.2.2.1.toNat)).reverse).length ≤ mL x.2.2.1.toNat ∧ rcv x.2.2.1.toNat (S.take (mA x.2.2.1.toNat)).reverse sh = true ∧ styOk x.1 x.2.2.1.toNat = true then
            (match run n d' x.2.2.1.toNat 0 (layp (S.take (mA x.2.2.1.toNat)).reverse (mL x.2.2.1.toNat)) [] sh m with
            | none => none
            | some q => run n (d' + 1) j x.2.1 L (pushv q.1 (S.drop (mA x.2.2.1.toNat))) q.2.1 q.2.2)
          else none)
      else (match stp pc x L S sh m with
        | none => none
        | some q => run n d j q.1 q.2.1 q.2.2.1 q.2.2.2.1 q.2.2.2.2) := by
  conv => lhs; unfold run
  rw [hx]
  rfl
theorem run_up1 : ∀ (n d j pc : Nat) (L S : List AV) (sh : List Kd) (m : Mm) (r : AV × List Kd × Mm), run n d j pc L S sh m = some r → run (n + 1) d j pc L S sh m = some r := by
  intro n
  induction n with
  | zero => intro d j pc L S sh m r h; cases h
  | succ n ih =>
    intro d j pc L S sh m r h
    cases hx : row j pc with
    | none => rw [run_none hx] at h; cases h
    | some x =>
      rw [run_some hx] at h ⊢
      by_cases h1 : isRet x.1 = true
      · rw [if_pos h1] at h ⊢
        exact h
      · rw [if_neg h1] at h ⊢
        by_cases h2 : (isCall x.1 && decide (0 ≤ x.2.2.1)) = true
        · rw [if_pos h2] at h ⊢
          match d, h with
          | 0, h => cases h
          | d' + 1, h =>
            dsimp only at h ⊢
            split at h
            · rename_i h3
              rw [if_pos h3]
              cases hq : run n d' x.2.2.1.toNat 0 (layp (S.take (mA x.2.2.1.toNat)).reverse (mL x.2.2.1.toNat)) [] sh m with
              | none => rw [hq] at h; cases h
              | some q =>
                rw [hq] at h
                rw [ih _ _ _ _ _ _ _ _ hq]
                exact ih _ _ _ _ _ _ _ _ h
            · cases h
        · rw [if_neg h2] at h ⊢
          cases hq : stp pc x L S sh m with
          | none => rw [hq] at h; cases h
          | some q =>
            rw [hq] at h
            exact ih _ _ _ _ _ _ _ _ h
theorem run_up {n d j pc : Nat} {L S : List AV} {sh : List Kd} {m : Mm} {r : AV × List Kd × Mm} (h : run n d j pc L S sh m = some r) : ∀ k, run (n + k) d j pc L S sh m = some r := by
  intro k
  induction k with
  | zero => exact h
  | succ k ih => exact run_up1 _ _ _ _ _ _ _ _ _ ih
def Rn (d j pc : Nat) (L S : List AV) (sh : List Kd) (m : Mm) (r : AV × List Kd × Mm) : Prop := ∃ n, run n d j pc L S sh m = some r
theorem Rn_step {d j pc : Nat} {L S : List AV} {sh : List Kd} {m : Mm} {r : AV × List Kd × Mm} {x : Row} {q : St5} (hx : row j pc = some x) (h1 : isRet x.1 = false) (h2 : (isCall x.1 && decide (0 ≤ x.2.2.1)) = false) (hq : stp pc x L S sh m = some q) (h : Rn d j q.1 q.2.1 q.2.2.1 q.2.2.2.1 q.2.2.2.2 r) : Rn d j pc L S sh m r := by
  obtain ⟨n, h⟩ := h
  refine ⟨n + 1, ?_⟩
  unfold run
  rw [hx]
  dsimp only
  rw [if_neg (by rw [h1]; decide), if_neg (by rw [h2]; decide), hq]
  exact h
theorem Rn_ret {d j pc : Nat} {L S : List AV} {sh : List Kd} {m : Mm} {x : Row} {v : AV} (hx : row j pc = some x) (h1 : isRet x.1 = true) (hq : retv j x.1 S = some v) : Rn d j pc L S sh m (v, sh, m) := by
  refine ⟨1, ?_⟩
  unfold run
  rw [hx]
  dsimp only
  rw [if_pos h1, hq]
theorem Rn_call {d j pc : Nat} {L S : List AV} {sh : List Kd} {m : Mm} {r q : AV × List Kd × Mm} {x : Row} (hx : row j pc = some x) (h1 : isRet x.1 = false) (h2 : (isCall x.1 && decide (0 ≤ x.2.2.1)) = true)
    (hc : mA x.2.2.1.toNat ≤ S.length ∧ csum (S.drop (mA x.2.2.1.toNat)) ≤ 8 ∧ (lay (S.take (mA x.2.2.1.toNat)).reverse).length ≤ mL x.2.2.1.toNat ∧ rcv x.2.2.1.toNat (S.take (mA x.2.2.1.toNat)).reverse sh = true ∧ styOk x.1 x.2.2.1.toNat = true)
    (hq : Rn d x.2.2.1.toNat 0 (layp (S.take (mA x.2.2.1.toNat)).reverse (mL x.2.2.1.toNat)) [] sh m q) (h : Rn (d + 1) j x.2.1 L (pushv q.1 (S.drop (mA x.2.2.1.toNat))) q.2.1 q.2.2 r) : Rn (d + 1) j pc L S sh m r := by
  obtain ⟨n1, hq⟩ := hq
  obtain ⟨n2, h⟩ := h
  refine ⟨n1 + n2 + 1, ?_⟩
  unfold run
  rw [hx]
  dsimp only
  rw [if_neg (by rw [h1]; decide), if_pos h2, if_pos hc, run_up hq]
  dsimp only
  rw [Nat.add_comm]
  exact run_up h _
theorem runI_ok (hF : FT F T) (hT : T.length ≤ 256) : ∀ (n d j pc : Nat) (L S : List AI) (c : Nat) (M : MI) (v : AI) (c' : Nat) (M' : MI), runI F n d j pc L S c M = some (v, c', M') → ∀ (L' S' : List AV) (m : Mm), gL L L' → gL S S' → c ≤ T.length → gm F c M m → ∃ (v' : AV) (m' : Mm), run n d j pc L' S' (T.take c) m = some (v', T.take c', m') ∧ ga v v' ∧ c' ≤ T.length ∧ gm F c' M' m' := by
  intro n
  induction n with
  | zero => intro d j pc L S c M v c' M' h; cases h
  | succ n ih =>
    intro d j pc L S c M v c' M' h L' S' m hL hS hc hM
    unfold runI at h
    unfold run
    split at h
    · cases h
    · rename_i x hx
      rw [hx]
      dsimp only
      split at h
      · rename_i h1
        rw [if_pos h1]
        split at h
        · rename_i v1 hv1
          cases h
          obtain ⟨v', e1, e2⟩ := retvI_ok hS hv1
          rw [e1]
          exact ⟨v', m, rfl, e2, hc, hM⟩
        · cases h
      · rename_i h1
        rw [if_neg h1]
        split at h
        · rename_i h2
          rw [if_pos h2]
          match d, h with
          | 0, h => cases h
          | d' + 1, h =>
            dsimp only at h ⊢
            split at h
            · rename_i h3
              obtain ⟨g1, g2, g3, g4, g5⟩ := h3
              have hA := gL_rev (gL_take (n := mA x.2.2.1.toNat) hS)
              have hD := gL_drop (n := mA x.2.2.1.toNat) hS
              rw [if_pos ⟨by rw [gL_len hS]; exact g1, by rw [gL_csum hD]; exact g2, by rw [gL_len (gL_lay hA)]; exact g3, rcvI_ok hF hA g4, g5⟩]
              split at h
              · cases h
              · rename_i q hq
                obtain ⟨v1, c1, M1⟩ := q
                obtain ⟨w1, m1, e1, e2, e3, e4⟩ := ih _ _ _ _ _ _ _ _ _ _ hq _ [] _ (gL_layp (n := mL x.2.2.1.toNat) hA) trivial hc hM
                rw [e1]
                exact ih _ _ _ _ _ _ _ _ _ _ h _ _ _ hL (gL_push e2 hD) e3 e4
            · cases h
        · rename_i h2
          rw [if_neg h2]
          split at h
          · cases h
          · rename_i q hq
            obtain ⟨q', e1, e2, e3, e4, e5, e6, e7⟩ := stpI_ok hF hT hL hS hc hM q hq
            rw [e1]
            dsimp only
            rw [e2, e5]
            exact ih _ _ _ _ _ _ _ _ _ _ h _ _ _ e3 e4 e6 e7
theorem toI_ok (hF : FT F T) (hT : T.length ≤ 256) {stop : Nat} : ∀ (n d j pc : Nat) (L S : List AI) (c : Nat) (M : MI) (q : SI5), toI F stop n d j pc L S c M = some q → 1 ≤ c → ∀ (L' S' : List AV) (m : Mm), gL L L' → gL S S' → c ≤ T.length → gm F c M m → ∃ q' : St5, gq F T q q' ∧ (∀ i, q'.2.2.2.2 0 i = m 0 i) ∧ ∀ r, Rn d j q'.1 q'.2.1 q'.2.2.1 q'.2.2.2.1 q'.2.2.2.2 r → Rn d j pc L' S' (T.take c) m r := by
  intro n
  induction n with
  | zero => intro d j pc L S c M q h; cases h
  | succ n ih =>
    intro d j pc L S c M q h h0 L' S' m hL hS hc hM
    have hl0 : 1 ≤ (T.take c).length := by rw [tk_len hc]; exact h0
    unfold toI at h
    split at h
    · cases h
      exact ⟨(pc, L', S', T.take c, m), ⟨rfl, hL, hS, rfl, hc, hM⟩, fun _ => rfl, fun _ h => h⟩
    split at h
    · cases h
    · rename_i x hx
      split at h
      · cases h
      · rename_i h1
        have h1' : isRet x.1 = false := by simpa using h1
        split at h
        · rename_i h2
          match d, h with
          | 0, h => cases h
          | d' + 1, h =>
            dsimp only at h
            split at h
            · rename_i h3
              obtain ⟨g1, g2, g3, g4, g5⟩ := h3
              have hA := gL_rev (gL_take (n := mA x.2.2.1.toNat) hS)
              have hD := gL_drop (n := mA x.2.2.1.toNat) hS
              split at h
              · cases h
              · rename_i w hw
                obtain ⟨v1, c1, M1⟩ := w
                obtain ⟨w1, m1, e1, e2, e3, e4⟩ := runI_ok hF hT _ _ _ _ _ _ _ _ _ _ _ hw _ [] _ (gL_layp (n := mL x.2.2.1.toNat) hA) trivial hc hM
                have hmo := run_mono _ _ _ _ _ _ _ _ _ _ _ e1
                rw [tk_len hc, tk_len e3] at hmo
                have hm0 := run_m0 _ _ _ _ _ _ _ _ _ _ _ hl0 e1
                obtain ⟨q', f1, f2, f3⟩ := ih _ _ _ _ _ _ _ _ h (show 1 ≤ c1 by omega) _ _ _ hL (gL_push e2 hD) e3 e4
                refine ⟨q', f1, fun i => (f2 i).trans (hm0.2 i), fun r hr => ?_⟩
                exact Rn_call hx h1' h2 ⟨by rw [gL_len hS]; exact g1, by rw [gL_csum hD]; exact g2, by rw [gL_len (gL_lay hA)]; exact g3, rcvI_ok hF hA g4, g5⟩ ⟨n, e1⟩ (f3 r hr)
            · cases h
        · rename_i h2
          have h2' : (isCall x.1 && decide (0 ≤ x.2.2.1)) = false := by simpa using h2
          split at h
          · cases h
          · rename_i w hw
            obtain ⟨q', e1, e2, e3, e4, e5, e6, e7⟩ := stpI_ok hF hT hL hS hc hM w hw
            have hmo := stp_mono e1
            rw [tk_len hc, e5, tk_len e6] at hmo
            obtain ⟨n1, p1, L1, c1, M1⟩ := w
            obtain ⟨n2, p2, L2, s2, m2⟩ := q'
            dsimp only at e2 e3 e4 e5 e6 e7 hmo h
            subst e2
            subst e5
            obtain ⟨q2, f1, f2, f3⟩ := ih _ _ _ _ _ _ _ _ h (by omega) _ _ _ e3 e4 e6 e7
            refine ⟨q2, f1, fun i => (f2 i).trans ?_, fun r hr => Rn_step hx h1' h2' e1 (f3 r hr)⟩
            exact stp_M0 _ _ _ _ _ _ hl0 _ e1 i
end RU2
