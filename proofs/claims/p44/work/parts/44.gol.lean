/-! walking a method by hand towards its contract -/
def cO0 (i : Instr) (k : Nat) (S : List AV) : Bool := Nat.ble (mA k) S.length && Nat.ble (csum (S.drop (mA k))) 8 && Nat.ble (lay (S.take (mA k)).reverse).length (mL k) && styOk i k
theorem cO0_ok {i : Instr} {k : Nat} {S : List AV} {T : List Kd} (h : cO0 i k S = true) (h2 : rcv k (S.take (mA k)).reverse T = true) : cOk i k S T = true := by
  unfold cO0 at h
  unfold cOk
  simp only [Bool.and_eq_true] at h ⊢
  exact ⟨⟨⟨h.1.1, h.1.2⟩, h2⟩, h.2⟩
theorem rcv_v {k : Nat} {o : Int} {As : List AV} {T : List Kd} {kd : Kd} (h1 : mS k = 1) (hk : T[o.toNat]? = some kd) (h2 : 0 < o) (h3 : kd.1 = mK k) (h4 : kd.1 < 100) : rcv k ((2, o) :: As) T = true := by
  unfold rcv
  rw [if_pos h1]
  dsimp only
  rw [hk]
  simp only [Bool.and_eq_true, beq_iff_eq, decide_eq_true_eq]
  exact ⟨⟨trivial, h2⟩, h3, h4⟩
section GOL
variable {T : List Kd} {dep j pc nx : Nat} {ret : Q} {W : List Nat} {m0 m : Mm} {L S : List AV}
theorem go_st {x : Row} {L' S' : List AV} (hx : row j pc = some x) (h1 : isRet x.1 = false) (h2 : (isCall x.1 && decide (0 ≤ x.2.2.1)) = false) (hq : stp pc x L S T m = some (nx, L', S', T, m)) (h : GoP T dep j ret W m0 nx L' S' m) : GoP T dep j ret W m0 pc L S m := by
  obtain ⟨v, mf, h, g⟩ := h
  exact ⟨v, mf, Rn_st hx h1 h2 hq h, g⟩
theorem go_ic {cn : ClassFile.Cond} {off : Int} {a : Int} {b c w : Nat} {x y : Int} {P : Prop} [Decidable P] (hx : row j pc = some (.if_icmp cn off, nx, a, b, c, w)) (hP : cnd cn x y = decide P) (h1 : P → GoP T dep j ret W m0 a.toNat L S m) (h2 : ¬ P → GoP T dep j ret W m0 nx L S m) : GoP T dep j ret W m0 pc L ((0, y) :: (0, x) :: S) m := by
  by_cases hp : P
  · obtain ⟨v, mf, h, g⟩ := h1 hp
    exact ⟨v, mf, Rn_ic hx hP (fun _ => h) (fun z => absurd hp z), g⟩
  · obtain ⟨v, mf, h, g⟩ := h2 hp
    exact ⟨v, mf, Rn_ic hx hP (fun z => absurd z hp) (fun _ => h), g⟩
theorem go_i0 {cn : ClassFile.Cond} {off : Int} {a : Int} {b c w : Nat} {x : Int} {P : Prop} [Decidable P] (hx : row j pc = some (.ifCond cn off, nx, a, b, c, w)) (hP : cnd cn x 0 = decide P) (h1 : P → GoP T dep j ret W m0 a.toNat L S m) (h2 : ¬ P → GoP T dep j ret W m0 nx L S m) : GoP T dep j ret W m0 pc L ((0, x) :: S) m := by
  by_cases hp : P
  · obtain ⟨v, mf, h, g⟩ := h1 hp
    exact ⟨v, mf, Rn_i0 hx hP (fun _ => h) (fun z => absurd hp z), g⟩
  · obtain ⟨v, mf, h, g⟩ := h2 hp
    exact ⟨v, mf, Rn_i0 hx hP (fun z => absurd z hp) (fun _ => h), g⟩
theorem go_rt {x : Row} {v : AV} (hx : row j pc = some x) (h1 : isRet x.1 = true) (hq : retv j x.1 S = some v) (hv : gR ret v) (hm : Gam m) (hf : Fr W m0 m) : GoP T dep j ret W m0 pc L S m := ⟨v, m, Rn_ret hx h1 hq, hv, hm, hf⟩
/-- reading a field of object o (a number) -/
theorem go_gf {ii : Nat} {a o : Int} {b cw w : Nat} {kd : Kd} {t : Nat} (hx : row j pc = some (.getfield ii, nx, a, b, cw, w)) (hk : T[o.toNat]? = some kd) (hc : 0 < o ∧ kd.1 = a.toNat ∧ kd.1 < 100 ∧ b < kd.2) (ht : (if cw % 10 = 2 then 2 else if cw % 10 = 1 then 1 else 0) = t) (hn : t = 2 → 0 ≤ m o.toNat b) (h : GoP T dep j ret W m0 nx L ((t, m o.toNat b) :: S) m) : GoP T dep j ret W m0 pc L ((2, o) :: S) m := by
  obtain ⟨v, mf, h, g⟩ := h
  refine ⟨v, mf, Rn_step hx rfl rfl (q := (nx, L, (t, m o.toNat b) :: S, T, m)) ?_ h, g⟩
  show ((T[o.toNat]?).bind fun kd => if 0 < o ∧ kd.1 = a.toNat ∧ kd.1 < 100 ∧ b < kd.2 then (if cw % 10 = 2 then (if m o.toNat b < 0 then none else some (nx, L, (2, m o.toNat b) :: S, T, m)) else some (nx, L, (if cw % 10 = 1 then 1 else 0, m o.toNat b) :: S, T, m)) else none) = _
  rw [hk, Option.bind_some, if_pos hc]
  by_cases e : cw % 10 = 2
  · rw [if_pos e] at ht ⊢
    have := hn ht.symm
    rw [if_neg (by omega), ← ht]
  · rw [if_neg e] at ht ⊢
    rw [ht]
/-- writing a number into a field -/
theorem go_pf {ii : Nat} {a o x : Int} {b cw w : Nat} {kd : Kd} {t : Nat} (hx : row j pc = some (.putfield ii, nx, a, b, cw, w)) (hk : T[o.toNat]? = some kd) (hc : 0 < o ∧ kd.1 = a.toNat ∧ kd.1 < 100 ∧ b < kd.2) (ht : (if cw % 10 = 2 then 2 else if cw % 10 = 1 then 1 else 0) = t) (h3 : cw % 10 = 3 → x = 0 ∨ x = 1) (h2 : cw % 10 = 2 → 0 ≤ x) (h : GoP T dep j ret W m0 nx L S (nu_up m o.toNat b x)) : GoP T dep j ret W m0 pc L ((t, x) :: (2, o) :: S) m := by
  obtain ⟨v, mf, h, g⟩ := h
  refine ⟨v, mf, Rn_step hx rfl rfl (q := (nx, L, S, T, nu_up m o.toNat b x)) ?_ h, g⟩
  subst ht
  show ((pp (if cw % 10 = 2 then 2 else if cw % 10 = 1 then 1 else 0) (((if cw % 10 = 2 then 2 else if cw % 10 = 1 then 1 else 0), x) :: (2, o) :: S)).bind fun v => (pp 2 v.2).bind fun q => (T[q.1.toNat]?).bind fun kd => if 0 < q.1 ∧ kd.1 = a.toNat ∧ kd.1 < 100 ∧ b < kd.2 ∧ (cw % 10 = 3 → v.1 = 0 ∨ v.1 = 1) ∧ (cw % 10 = 2 → 0 ≤ v.1) then some (nx, L, q.2, T, nu_up m q.1.toNat b v.1) else none) = _
  have e1 : pp (if cw % 10 = 2 then 2 else if cw % 10 = 1 then 1 else 0) (((if cw % 10 = 2 then 2 else if cw % 10 = 1 then 1 else 0), x) :: (2, o) :: S) = some (x, (2, o) :: S) := if_pos rfl
  have e2 : pp 2 ((2, o) :: S) = some (o, S) := rfl
  rw [e1, Option.bind_some, e2, Option.bind_some, hk, Option.bind_some, if_pos ⟨hc.1, hc.2.1, hc.2.2.1, hc.2.2.2, h3, h2⟩]
/-- a call by its contract -/
theorem go_cn {x : Row} {c : Con} {S2 : List AV} (hC : ConH T c) (hx : row j pc = some x) (h1 : isRet x.1 = false) (h2 : (isCall x.1 && decide (0 ≤ x.2.2.1)) = true) (hk : x.2.2.1.toNat = c.1) (hn : x.2.1 = nx) (hc : cO0 x.1 c.1 S = true) (hr : rcv c.1 (S.take (mA c.1)).reverse T = true) (hd : c.2.2.2.2 < dep) (hS : S.drop (mA c.1) = S2)
    (hargs : F2 gq0 c.2.1 (S.take (mA c.1)).reverse) (hm : Gam m) (hf : Fr W m0 m) (hW : c.2.2.2.1.all (fun y => W.contains y) = true) (h : ∀ (v : AV) (m' : Mm), gR c.2.2.1 v → Gam m' → Fr c.2.2.2.1 m m' → Fr W m0 m' → GoP T dep j ret W m0 nx L (pushv v S2) m') : GoP T dep j ret W m0 pc L S m := by
  obtain ⟨v, m', r1, r2, r3, r4⟩ := hC _ m hargs hm
  obtain ⟨v2, mf, h, g⟩ := h v m' r2 r3 r4 (Fr_tr hf (Fr_mono (fun y hy => List.all_eq_true.mp hW y (List.contains_iff_mem.mp hy)) r4))
  obtain ⟨d', rfl⟩ : ∃ d', dep = d' + 1 := ⟨dep - 1, by omega⟩
  have r5 := Rn_d1 (k := d' - c.2.2.2.2) r1
  rw [show c.2.2.2.2 + (d' - c.2.2.2.2) = d' by omega] at r5
  subst hS
  exact ⟨v2, mf, Rn_cl (k := c.1) hx h1 h2 hk hn (cO0_ok hc hr) rfl r5 rfl h, g⟩
end GOL
