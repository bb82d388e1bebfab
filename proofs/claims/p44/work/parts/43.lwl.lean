/-! the law's loop: what comes to its end with 1 -/
def Lw (T : List Kd) (pc : Nat) (L S : List AV) (m : Mm) : Prop := ∃ mf, Rn 1000 316 pc L S T m ((0, 1), T, mf)
section FL
variable {T : List Kd} {pc nx : Nat} {L S : List AV} {m : Mm}
theorem Lw_st {x : Row} {L' S' : List AV} (hx : row 316 pc = some x) (h1 : isRet x.1 = false) (h2 : (isCall x.1 && decide (0 ≤ x.2.2.1)) = false) (hq : stp pc x L S T m = some (nx, L', S', T, m)) (h : Lw T nx L' S' m) : Lw T pc L S m := by
  obtain ⟨mf, h⟩ := h
  exact ⟨mf, Rn_st hx h1 h2 hq h⟩
theorem Lw_ic {cn : ClassFile.Cond} {off : Int} {a : Int} {b c w : Nat} {x y : Int} {P : Prop} [Decidable P] (hx : row 316 pc = some (.if_icmp cn off, nx, a, b, c, w)) (hP : cnd cn x y = decide P) (h1 : P → Lw T a.toNat L S m) (h2 : ¬ P → Lw T nx L S m) : Lw T pc L ((0, y) :: (0, x) :: S) m := by
  by_cases hp : P
  · obtain ⟨mf, h⟩ := h1 hp
    exact ⟨mf, Rn_ic hx hP (fun _ => h) (fun z => absurd hp z)⟩
  · obtain ⟨mf, h⟩ := h2 hp
    exact ⟨mf, Rn_ic hx hP (fun z => absurd z hp) (fun _ => h)⟩
theorem Lw_rt {x : Row} (hx : row 316 pc = some x) (h1 : isRet x.1 = true) (hq : retv 316 x.1 S = some (0, 1)) : Lw T pc L S m := ⟨m, Rn_ret hx h1 hq⟩
/-- a call by its contract -/
theorem Lw_cn {x : Row} {c : Con} {S2 : List AV} (hC : ConH T c) (hx : row 316 pc = some x) (h1 : isRet x.1 = false) (h2 : (isCall x.1 && decide (0 ≤ x.2.2.1)) = true) (hk : x.2.2.1.toNat = c.1) (hn : x.2.1 = nx) (hc : cOk x.1 c.1 S T = true) (hd : c.2.2.2.2 ≤ 999) (hS : S.drop (mA c.1) = S2)
    (hargs : F2 gq0 c.2.1 (S.take (mA c.1)).reverse) (hm : Gam m) (h : ∀ (v : AV) (m' : Mm), gR c.2.2.1 v → Gam m' → Fr c.2.2.2.1 m m' → Lw T nx L (pushv v S2) m') : Lw T pc L S m := by
  obtain ⟨v, m', r1, r2, r3, r4⟩ := hC _ m hargs hm
  obtain ⟨mf, h⟩ := h v m' r2 r3 r4
  have r5 := Rn_d1 (k := 999 - c.2.2.2.2) r1
  rw [show c.2.2.2.2 + (999 - c.2.2.2.2) = 999 by omega] at r5
  subst hS
  exact ⟨mf, Rn_cl (k := c.1) hx h1 h2 hk hn hc rfl r5 rfl h⟩
end FL
