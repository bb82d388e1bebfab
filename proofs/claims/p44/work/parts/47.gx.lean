/-! walking towards anything -/
def GX (T : List Kd) (d j pc : Nat) (L S : List AV) (m : Mm) (Q : AV → Mm → Prop) : Prop := ∃ (v : AV) (m' : Mm), Rn d j pc L S T m (v, T, m') ∧ Q v m'
/-- what a call answers: an int, a long, nothing -/
def RI (P : Int → Mm → Prop) : AV → Mm → Prop := fun v m' => ∃ x, v = (0, x) ∧ P x m'
def RL (P : Int → Mm → Prop) : AV → Mm → Prop := fun v m' => ∃ x, v = (1, x) ∧ P x m'
def RV (P : Mm → Prop) : AV → Mm → Prop := fun v m' => v.1 = 9 ∧ P m'
theorem w32_eq {a z : Int} (h : a = z) (h1 : -2147483648 ≤ z) (h2 : z ≤ 2147483647) : w32 a = z := by rw [h]; exact w32_id ⟨h1, h2⟩
theorem w64_eq {a z : Int} (h : a = z) (h1 : -9223372036854775808 ≤ z) (h2 : z ≤ 9223372036854775807) : w64 a = z := by rw [h]; exact w64_id ⟨h1, h2⟩
theorem td_eq {a b z : Int} (ha : 0 ≤ a) (h : a / b = z) : a.tdiv b = z := by rw [Int.tdiv_eq_ediv_of_nonneg ha]; exact h
theorem tm_eq {a b z : Int} (ha : 0 ≤ a) (h : a % b = z) : a.tmod b = z := by rw [Int.tmod_eq_emod_of_nonneg ha]; exact h
section GXs
variable {T : List Kd} {d j pc nx : Nat} {L S : List AV} {m : Mm} {Q : AV → Mm → Prop}
theorem gx_imp {Q' : AV → Mm → Prop} (h : GX T d j pc L S m Q) (hq : ∀ v m', Q v m' → Q' v m') : GX T d j pc L S m Q' := by
  obtain ⟨v, m', h1, h2⟩ := h
  exact ⟨v, m', h1, hq v m' h2⟩
theorem gx_d {d' : Nat} (h : GX T d' j pc L S m Q) (hd : d' ≤ d) : GX T d j pc L S m Q := by
  obtain ⟨v, m', h1, h2⟩ := h
  have := Rn_d1 (k := d - d') h1
  rw [show d' + (d - d') = d by omega] at this
  exact ⟨v, m', this, h2⟩
theorem gx_st {x : Row} {L' S' : List AV} (hx : row j pc = some x) (h1 : isRet x.1 = false) (h2 : (isCall x.1 && decide (0 ≤ x.2.2.1)) = false) (hq : stp pc x L S T m = some (nx, L', S', T, m)) (h : GX T d j nx L' S' m Q) : GX T d j pc L S m Q := by
  obtain ⟨v, mf, h, g⟩ := h
  exact ⟨v, mf, Rn_st hx h1 h2 hq h, g⟩
/-- the same, and the top of the stack has another text -/
theorem gx_ar {x : Row} {L' S' : List AV} {t : Nat} {e z : Int} (hx : row j pc = some x) (h1 : isRet x.1 = false) (h2 : (isCall x.1 && decide (0 ≤ x.2.2.1)) = false) (hq : stp pc x L S T m = some (nx, L', (t, e) :: S', T, m)) (hz : e = z) (h : GX T d j nx L' ((t, z) :: S') m Q) : GX T d j pc L S m Q := by
  subst hz
  exact gx_st hx h1 h2 hq h
theorem gx_li {i : Nat} {n a : Int} {b c w : Nat} {x z : Int} {L' : List AV} (hx : row j pc = some (.iinc i n, nx, a, b, c, w)) (hl : gl L 0 i = some x) (hz : w32 (x + n) = z) (hL : st1 L i (0, z) = L') (h : GX T d j nx L' S m Q) : GX T d j pc L S m Q := by
  refine gx_st hx rfl rfl ?_ h
  show ((gl L 0 i).bind fun x => some (nx, st1 L i (0, w32 (x + n)), S, T, m)) = _
  rw [hl, Option.bind_some, hz, hL]
theorem gx_ic {cn : ClassFile.Cond} {off : Int} {a : Int} {b c w : Nat} {x y : Int} {P : Prop} [Decidable P] (hx : row j pc = some (.if_icmp cn off, nx, a, b, c, w)) (hP : cnd cn x y = decide P) (h1 : P → GX T d j a.toNat L S m Q) (h2 : ¬ P → GX T d j nx L S m Q) : GX T d j pc L ((0, y) :: (0, x) :: S) m Q := by
  by_cases hp : P
  · obtain ⟨v, mf, h, g⟩ := h1 hp
    exact ⟨v, mf, Rn_ic hx hP (fun _ => h) (fun z => absurd hp z), g⟩
  · obtain ⟨v, mf, h, g⟩ := h2 hp
    exact ⟨v, mf, Rn_ic hx hP (fun z => absurd z hp) (fun _ => h), g⟩
theorem gx_i0 {cn : ClassFile.Cond} {off : Int} {a : Int} {b c w : Nat} {x : Int} {P : Prop} [Decidable P] (hx : row j pc = some (.ifCond cn off, nx, a, b, c, w)) (hP : cnd cn x 0 = decide P) (h1 : P → GX T d j a.toNat L S m Q) (h2 : ¬ P → GX T d j nx L S m Q) : GX T d j pc L ((0, x) :: S) m Q := by
  by_cases hp : P
  · obtain ⟨v, mf, h, g⟩ := h1 hp
    exact ⟨v, mf, Rn_i0 hx hP (fun _ => h) (fun z => absurd hp z), g⟩
  · obtain ⟨v, mf, h, g⟩ := h2 hp
    exact ⟨v, mf, Rn_i0 hx hP (fun z => absurd z hp) (fun _ => h), g⟩
theorem gx_rt {x : Row} {v : AV} (hx : row j pc = some x) (h1 : isRet x.1 = true) (hq : retv j x.1 S = some v) (hQ : Q v m) : GX T d j pc L S m Q := ⟨v, m, Rn_ret hx h1 hq, hQ⟩
/-- a boolean is returned -/
theorem gx_rb {nx b c w : Nat} {a x : Int} (hx : row j pc = some (.ireturn, nx, a, b, c, w)) (hb : mB j = 3) (h01 : x = 0 ∨ x = 1) (hQ : Q (0, x) m) : GX T d j pc L [(0, x)] m Q := by
  refine gx_rt hx rfl ?_ hQ
  show (if (0 : Nat) = 0 ∧ (mB j = 1 ∨ (mB j = 3 ∧ (x = 0 ∨ x = 1))) then some ((0, x) : AV) else none) = some (0, x)
  rw [if_pos ⟨rfl, Or.inr ⟨hb, h01⟩⟩]
/-- reading a field -/
theorem gx_gf {ii : Nat} {a o x : Int} {b cw w on : Nat} {kd : Kd} (t : Nat) (hx : row j pc = some (.getfield ii, nx, a, b, cw, w)) (ho : o.toNat = on) (hk : T[on]? = some kd) (hc : 0 < o ∧ kd.1 = a.toNat ∧ kd.1 < 100 ∧ b < kd.2) (ht : (if cw % 10 = 2 then 2 else if cw % 10 = 1 then 1 else 0) = t) (hn : t = 2 → 0 ≤ x) (ex : m on b = x) (h : GX T d j nx L ((t, x) :: S) m Q) : GX T d j pc L ((2, o) :: S) m Q := by
  subst ho ex
  obtain ⟨v, mf, h, g⟩ := h
  refine ⟨v, mf, Rn_step hx rfl rfl (q := (nx, L, (t, m o.toNat b) :: S, T, m)) ?_ h, g⟩
  show ((T[o.toNat]?).bind fun kd => if 0 < o ∧ kd.1 = a.toNat ∧ kd.1 < 100 ∧ b < kd.2 then (if cw % 10 = 2 then (if m o.toNat b < 0 then none else some (nx, L, (2, m o.toNat b) :: S, T, m)) else some (nx, L, (if cw % 10 = 1 then 1 else 0, m o.toNat b) :: S, T, m)) else none) = _
  rw [hk, Option.bind_some, if_pos hc]
  by_cases e : cw % 10 = 2
  · rw [if_pos e] at ht ⊢
    have := hn ht.symm
    rw [if_neg (by omega), ← ht]
  · rw [if_neg e] at ht ⊢
    rw [ht]
/-- writing a number into a field -/
theorem gx_pf {ii : Nat} {a o x : Int} {b cw w on : Nat} {kd : Kd} {m1 : Mm} (t : Nat) (hx : row j pc = some (.putfield ii, nx, a, b, cw, w)) (ho : o.toNat = on) (hk : T[on]? = some kd) (hc : 0 < o ∧ kd.1 = a.toNat ∧ kd.1 < 100 ∧ b < kd.2) (ht : (if cw % 10 = 2 then 2 else if cw % 10 = 1 then 1 else 0) = t) (h3 : cw % 10 = 3 → x = 0 ∨ x = 1) (h2 : cw % 10 = 2 → 0 ≤ x) (e : nu_up m on b x = m1) (h : GX T d j nx L S m1 Q) : GX T d j pc L ((t, x) :: (2, o) :: S) m Q := by
  subst ho e
  obtain ⟨v, mf, h, g⟩ := h
  refine ⟨v, mf, Rn_step hx rfl rfl (q := (nx, L, S, T, nu_up m o.toNat b x)) ?_ h, g⟩
  subst ht
  show ((pp (if cw % 10 = 2 then 2 else if cw % 10 = 1 then 1 else 0) (((if cw % 10 = 2 then 2 else if cw % 10 = 1 then 1 else 0), x) :: (2, o) :: S)).bind fun v => (pp 2 v.2).bind fun q => (T[q.1.toNat]?).bind fun kd => if 0 < q.1 ∧ kd.1 = a.toNat ∧ kd.1 < 100 ∧ b < kd.2 ∧ (cw % 10 = 3 → v.1 = 0 ∨ v.1 = 1) ∧ (cw % 10 = 2 → 0 ≤ v.1) then some (nx, L, q.2, T, nu_up m q.1.toNat b v.1) else none) = _
  have e1 : pp (if cw % 10 = 2 then 2 else if cw % 10 = 1 then 1 else 0) (((if cw % 10 = 2 then 2 else if cw % 10 = 1 then 1 else 0), x) :: (2, o) :: S) = some (x, (2, o) :: S) := if_pos rfl
  have e2 : pp 2 ((2, o) :: S) = some (o, S) := rfl
  rw [e1, Option.bind_some, e2, Option.bind_some, hk, Option.bind_some, if_pos ⟨hc.1, hc.2.1, hc.2.2.1, hc.2.2.2, h3, h2⟩]
theorem gx_al {a o : Int} {b cw w on : Nat} {kd : Kd} (hx : row j pc = some (.arraylength, nx, a, b, cw, w)) (ho : o.toNat = on) (hk : T[on]? = some kd) (hc : 100 ≤ kd.1 ∧ kd.2 < 2147483648 ∧ kd.1 < 108) (h : GX T d j nx L ((0, (kd.2 : Int)) :: S) m Q) : GX T d j pc L ((2, o) :: S) m Q := by
  subst ho
  refine gx_st hx rfl rfl ?_ h
  show ((T[o.toNat]?).bind fun kd => if 100 ≤ kd.1 ∧ kd.2 < 2147483648 ∧ kd.1 < 108 then some (nx, L, (0, (kd.2 : Int)) :: S, T, m) else none) = _
  rw [hk, Option.bind_some, if_pos hc]
section ARR
variable {a o i x y : Int} {b cw w on n : Nat} {kd : Kd} {m1 : Mm}
theorem gx_ia (hx : row j pc = some (.iaload, nx, a, b, cw, w)) (ho : o.toNat = on) (hk : T[on]? = some kd) (hi : i = (n : Int)) (hc : kd.1 = 100 ∧ n < kd.2) (ex : m on n = x) (h : GX T d j nx L ((0, x) :: S) m Q) : GX T d j pc L ((0, i) :: (2, o) :: S) m Q := by
  subst ho ex hi
  refine gx_st hx rfl rfl ?_ h
  show ((T[o.toNat]?).bind fun kd => if kd.1 = 100 ∧ 0 ≤ (n : Int) ∧ (n : Int).toNat < kd.2 then some (nx, L, (0, m o.toNat (n : Int).toNat) :: S, T, m) else none) = _
  rw [hk, Option.bind_some, if_pos ⟨hc.1, Int.natCast_nonneg n, hc.2⟩]
  rfl
theorem gx_la (hx : row j pc = some (.laload, nx, a, b, cw, w)) (ho : o.toNat = on) (h0 : 0 < o) (hk : T[on]? = some kd) (hi : i = (n : Int)) (hc : kd.1 = 101 ∧ n < kd.2) (ex : m on n = x) (h : GX T d j nx L ((1, x) :: S) m Q) : GX T d j pc L ((0, i) :: (2, o) :: S) m Q := by
  subst ho ex hi
  refine gx_st hx rfl rfl ?_ h
  show ((T[o.toNat]?).bind fun kd => if 0 < o ∧ kd.1 = 101 ∧ 0 ≤ (n : Int) ∧ (n : Int).toNat < kd.2 then some (nx, L, (1, m o.toNat (n : Int).toNat) :: S, T, m) else none) = _
  rw [hk, Option.bind_some, if_pos ⟨h0, hc.1, Int.natCast_nonneg n, hc.2⟩]
  rfl
theorem gx_ba (hx : row j pc = some (.baload, nx, a, b, cw, w)) (ho : o.toNat = on) (h0 : 0 < o) (hk : T[on]? = some kd) (hi : i = (n : Int)) (hc : (kd.1 = 102 ∨ kd.1 = 103) ∧ n < kd.2) (ex : m on n = x) (h : GX T d j nx L ((0, x) :: S) m Q) : GX T d j pc L ((0, i) :: (2, o) :: S) m Q := by
  subst ho ex hi
  refine gx_st hx rfl rfl ?_ h
  show ((T[o.toNat]?).bind fun kd => if 0 < o ∧ (kd.1 = 102 ∨ kd.1 = 103) ∧ 0 ≤ (n : Int) ∧ (n : Int).toNat < kd.2 then some (nx, L, (0, m o.toNat (n : Int).toNat) :: S, T, m) else none) = _
  rw [hk, Option.bind_some, if_pos ⟨h0, hc.1, Int.natCast_nonneg n, hc.2⟩]
  rfl
theorem gx_aa (hx : row j pc = some (.aaload, nx, a, b, cw, w)) (ho : o.toNat = on) (h0 : 0 < o) (hk : T[on]? = some kd) (hi : i = (n : Int)) (hc : 104 ≤ kd.1 ∧ kd.1 < 108 ∧ n < kd.2) (ex : m on n = x) (h1 : 0 ≤ x) (h : GX T d j nx L ((2, x) :: S) m Q) : GX T d j pc L ((0, i) :: (2, o) :: S) m Q := by
  subst ho ex hi
  refine gx_st hx rfl rfl ?_ h
  show ((T[o.toNat]?).bind fun kd => if 0 < o ∧ 104 ≤ kd.1 ∧ kd.1 < 108 ∧ 0 ≤ (n : Int) ∧ (n : Int).toNat < kd.2 ∧ 0 ≤ m o.toNat (n : Int).toNat then some (nx, L, (2, m o.toNat (n : Int).toNat) :: S, T, m) else none) = _
  rw [hk, Option.bind_some, if_pos ⟨h0, hc.1, hc.2.1, Int.natCast_nonneg n, hc.2.2, h1⟩]
  rfl
theorem gx_is (hx : row j pc = some (.iastore, nx, a, b, cw, w)) (ho : o.toNat = on) (h0 : 0 < o) (hk : T[on]? = some kd) (hi : i = (n : Int)) (hc : kd.1 = 100 ∧ n < kd.2) (e : nu_up m on n x = m1) (h : GX T d j nx L S m1 Q) : GX T d j pc L ((0, x) :: (0, i) :: (2, o) :: S) m Q := by
  subst ho e hi
  obtain ⟨v, mf, h, g⟩ := h
  refine ⟨v, mf, Rn_step hx rfl rfl (q := (nx, L, S, T, nu_up m o.toNat n x)) ?_ h, g⟩
  show ((T[o.toNat]?).bind fun kd => if 0 < o ∧ kd.1 = 100 ∧ 0 ≤ (n : Int) ∧ (n : Int).toNat < kd.2 then some (nx, L, S, T, nu_up m o.toNat (n : Int).toNat x) else none) = _
  rw [hk, Option.bind_some, if_pos ⟨h0, hc.1, Int.natCast_nonneg n, hc.2⟩]
  rfl
theorem gx_ls (hx : row j pc = some (.lastore, nx, a, b, cw, w)) (ho : o.toNat = on) (h0 : 0 < o) (hk : T[on]? = some kd) (hi : i = (n : Int)) (hc : kd.1 = 101 ∧ n < kd.2) (e : nu_up m on n x = m1) (h : GX T d j nx L S m1 Q) : GX T d j pc L ((1, x) :: (0, i) :: (2, o) :: S) m Q := by
  subst ho e hi
  obtain ⟨v, mf, h, g⟩ := h
  refine ⟨v, mf, Rn_step hx rfl rfl (q := (nx, L, S, T, nu_up m o.toNat n x)) ?_ h, g⟩
  show ((T[o.toNat]?).bind fun kd => if 0 < o ∧ kd.1 = 101 ∧ 0 ≤ (n : Int) ∧ (n : Int).toNat < kd.2 then some (nx, L, S, T, nu_up m o.toNat (n : Int).toNat x) else none) = _
  rw [hk, Option.bind_some, if_pos ⟨h0, hc.1, Int.natCast_nonneg n, hc.2⟩]
  rfl
/-- a byte (102) -/
theorem gx_bs (hx : row j pc = some (.bastore, nx, a, b, cw, w)) (ho : o.toNat = on) (h0 : 0 < o) (hk : T[on]? = some kd) (hi : i = (n : Int)) (hc : kd.1 = 102 ∧ n < kd.2) (e : nu_up m on n (b8 x) = m1) (h : GX T d j nx L S m1 Q) : GX T d j pc L ((0, x) :: (0, i) :: (2, o) :: S) m Q := by
  subst ho e hi
  obtain ⟨v, mf, h, g⟩ := h
  refine ⟨v, mf, Rn_step hx rfl rfl (q := (nx, L, S, T, nu_up m o.toNat n (b8 x))) ?_ h, g⟩
  show ((T[o.toNat]?).bind fun kd => if 0 < o ∧ 0 ≤ (n : Int) ∧ (n : Int).toNat < kd.2 ∧ (kd.1 = 102 ∨ (kd.1 = 103 ∧ (x = 0 ∨ x = 1))) then some (nx, L, S, T, nu_up m o.toNat (n : Int).toNat (if kd.1 = 102 then b8 x else x)) else none) = _
  rw [hk, Option.bind_some, if_pos ⟨h0, Int.natCast_nonneg n, hc.2, Or.inl hc.1⟩, if_pos hc.1]
  rfl
/-- a boolean (103) -/
theorem gx_zs (hx : row j pc = some (.bastore, nx, a, b, cw, w)) (ho : o.toNat = on) (h0 : 0 < o) (hk : T[on]? = some kd) (hi : i = (n : Int)) (hc : kd.1 = 103 ∧ n < kd.2) (h01 : x = 0 ∨ x = 1) (e : nu_up m on n x = m1) (h : GX T d j nx L S m1 Q) : GX T d j pc L ((0, x) :: (0, i) :: (2, o) :: S) m Q := by
  subst ho e hi
  obtain ⟨v, mf, h, g⟩ := h
  refine ⟨v, mf, Rn_step hx rfl rfl (q := (nx, L, S, T, nu_up m o.toNat n x)) ?_ h, g⟩
  show ((T[o.toNat]?).bind fun kd => if 0 < o ∧ 0 ≤ (n : Int) ∧ (n : Int).toNat < kd.2 ∧ (kd.1 = 102 ∨ (kd.1 = 103 ∧ (x = 0 ∨ x = 1))) then some (nx, L, S, T, nu_up m o.toNat (n : Int).toNat (if kd.1 = 102 then b8 x else x)) else none) = _
  rw [hk, Option.bind_some, if_pos ⟨h0, Int.natCast_nonneg n, hc.2, Or.inr ⟨hc.1, h01⟩⟩, if_neg (by omega)]
  rfl
theorem gx_dv {z : Int} (hx : row j pc = some (.idiv, nx, a, b, cw, w)) (hy : ¬ y = 0) (hz : w32 (x.tdiv y) = z) (h : GX T d j nx L ((0, z) :: S) m Q) : GX T d j pc L ((0, y) :: (0, x) :: S) m Q := by
  subst hz
  obtain ⟨v, mf, h, g⟩ := h
  exact ⟨v, mf, Rn_idiv hx hy h, g⟩
theorem gx_rm {z : Int} (hx : row j pc = some (.irem, nx, a, b, cw, w)) (hy : ¬ y = 0) (hz : x.tmod y = z) (h : GX T d j nx L ((0, z) :: S) m Q) : GX T d j pc L ((0, y) :: (0, x) :: S) m Q := by
  subst hz
  obtain ⟨v, mf, h, g⟩ := h
  exact ⟨v, mf, Rn_irem hx hy h, g⟩
theorem gx_ldv {z : Int} (hx : row j pc = some (.ldiv, nx, a, b, cw, w)) (hy : ¬ y = 0) (hz : w64 (x.tdiv y) = z) (h : GX T d j nx L ((1, z) :: S) m Q) : GX T d j pc L ((1, y) :: (1, x) :: S) m Q := by
  subst hz
  obtain ⟨v, mf, h, g⟩ := h
  exact ⟨v, mf, Rn_ldiv hx hy h, g⟩
theorem gx_lrm {z : Int} (hx : row j pc = some (.lrem, nx, a, b, cw, w)) (hy : ¬ y = 0) (hz : x.tmod y = z) (h : GX T d j nx L ((1, z) :: S) m Q) : GX T d j pc L ((1, y) :: (1, x) :: S) m Q := by
  subst hz
  obtain ⟨v, mf, h, g⟩ := h
  exact ⟨v, mf, Rn_lrem hx hy h, g⟩
end ARR
theorem gx_cq {x : Row} {k dk : Nat} {L0 S2 : List AV} {Qk : AV → Mm → Prop} (hx : row j pc = some x) (h1 : isRet x.1 = false) (h2 : (isCall x.1 && decide (0 ≤ x.2.2.1)) = true) (hk : x.2.2.1.toNat = k) (hn : x.2.1 = nx) (hc : cO0 x.1 k S = true) (hr : rcv k (S.take (mA k)).reverse T = true) (hL : layp (S.take (mA k)).reverse (mL k) = L0) (hq : GX T dk k 0 L0 [] m Qk) (hd : dk < d) (hS : S.drop (mA k) = S2) (h : ∀ v m', Qk v m' → GX T d j nx L (pushv v S2) m' Q) : GX T d j pc L S m Q := by
  obtain ⟨v, m', r1, r2⟩ := hq
  obtain ⟨v2, mf, h, g⟩ := h v m' r2
  obtain ⟨d', rfl⟩ : ∃ d', d = d' + 1 := ⟨d - 1, by omega⟩
  have r5 := Rn_d1 (k := d' - dk) r1
  rw [show dk + (d' - dk) = d' by omega] at r5
  subst hS
  exact ⟨v2, mf, Rn_cl hx h1 h2 hk hn (cO0_ok hc hr) hL r5 rfl h, g⟩
section CALLS
variable {x : Row} {k dk : Nat} {L0 S2 : List AV}
theorem gx_ci {P : Int → Mm → Prop} (hq : GX T dk k 0 L0 [] m (RI P)) (hx : row j pc = some x) (h1 : isRet x.1 = false) (h2 : (isCall x.1 && decide (0 ≤ x.2.2.1)) = true) (hk : x.2.2.1.toNat = k) (hn : x.2.1 = nx) (hc : cO0 x.1 k S = true) (hr : rcv k (S.take (mA k)).reverse T = true) (hL : layp (S.take (mA k)).reverse (mL k) = L0) (hd : dk < d) (hS : S.drop (mA k) = S2) (h : ∀ v m', P v m' → GX T d j nx L ((0, v) :: S2) m' Q) : GX T d j pc L S m Q :=
  gx_cq hx h1 h2 hk hn hc hr hL hq hd hS (fun v m' ⟨y, e, p⟩ => by subst e; exact h y m' p)
theorem gx_cl {P : Int → Mm → Prop} (hq : GX T dk k 0 L0 [] m (RL P)) (hx : row j pc = some x) (h1 : isRet x.1 = false) (h2 : (isCall x.1 && decide (0 ≤ x.2.2.1)) = true) (hk : x.2.2.1.toNat = k) (hn : x.2.1 = nx) (hc : cO0 x.1 k S = true) (hr : rcv k (S.take (mA k)).reverse T = true) (hL : layp (S.take (mA k)).reverse (mL k) = L0) (hd : dk < d) (hS : S.drop (mA k) = S2) (h : ∀ v m', P v m' → GX T d j nx L ((1, v) :: S2) m' Q) : GX T d j pc L S m Q :=
  gx_cq hx h1 h2 hk hn hc hr hL hq hd hS (fun v m' ⟨y, e, p⟩ => by subst e; exact h y m' p)
theorem gx_cv {P : Mm → Prop} (hq : GX T dk k 0 L0 [] m (RV P)) (hx : row j pc = some x) (h1 : isRet x.1 = false) (h2 : (isCall x.1 && decide (0 ≤ x.2.2.1)) = true) (hk : x.2.2.1.toNat = k) (hn : x.2.1 = nx) (hc : cO0 x.1 k S = true) (hr : rcv k (S.take (mA k)).reverse T = true) (hL : layp (S.take (mA k)).reverse (mL k) = L0) (hd : dk < d) (hS : S.drop (mA k) = S2) (h : ∀ m', P m' → GX T d j nx L S2 m' Q) : GX T d j pc L S m Q :=
  gx_cq hx h1 h2 hk hn hc hr hL hq hd hS (fun v m' ⟨e, p⟩ => by unfold pushv; rw [if_pos e]; exact h m' p)
end CALLS
end GXs
/-- out of contracts -/
theorem gx_h {T : List Kd} {c : Con} {args : List AV} {m : Mm} (h : ConH T c) (ha : F2 gq0 c.2.1 args) (hm : Gam m) : GX T c.2.2.2.2 c.1 0 (layp args (mL c.1)) [] m (fun v m' => gR c.2.2.1 v ∧ Gam m' ∧ Fr c.2.2.2.1 m m') := h args m ha hm
theorem gx_hi {T : List Kd} {k dep : Nat} {Qs : List Q} {lo hi : Int} {W : List Nat} {args L0 : List AV} {m : Mm} (h : ConH T (k, Qs, (0, lo, hi), W, dep)) (ha : F2 gq0 Qs args) (hm : Gam m) (hL : layp args (mL k) = L0) : GX T dep k 0 L0 [] m (RI (fun x m' => lo ≤ x ∧ x ≤ hi ∧ Gam m' ∧ Fr W m m')) := by
  subst hL
  refine gx_imp (gx_h h ha hm) (fun v m' ⟨h1, h2, h3⟩ => ?_)
  obtain ⟨x, e, p1, p2⟩ := gR_i0 h1
  exact ⟨x, e, p1, p2, h2, h3⟩
theorem gx_hv {T : List Kd} {k dep : Nat} {Qs : List Q} {a b : Int} {W : List Nat} {args L0 : List AV} {m : Mm} (h : ConH T (k, Qs, (9, a, b), W, dep)) (ha : F2 gq0 Qs args) (hm : Gam m) (hL : layp args (mL k) = L0) : GX T dep k 0 L0 [] m (RV (fun m' => Gam m' ∧ Fr W m m')) := by
  subst hL
  refine gx_imp (gx_h h ha hm) (fun v m' ⟨h1, h2, h3⟩ => ⟨?_, h2, h3⟩)
  unfold gR at h1
  rw [if_pos (show ((9, a, b) : Q).1 = 9 from rfl)] at h1
  exact h1
theorem gR_l0 {lo hi : Int} {v : AV} (h : gR (1, lo, hi) v) : ∃ x, v = (1, x) ∧ lo ≤ x ∧ x ≤ hi := by
  unfold gR at h
  rw [if_neg (show ¬ ((1, lo, hi) : Q).1 = 9 from (by decide : ¬ (1 : Nat) = 9))] at h
  exact gq_l h.2
theorem gx_hl {T : List Kd} {k dep : Nat} {Qs : List Q} {lo hi : Int} {W : List Nat} {args L0 : List AV} {m : Mm} (h : ConH T (k, Qs, (1, lo, hi), W, dep)) (ha : F2 gq0 Qs args) (hm : Gam m) (hL : layp args (mL k) = L0) : GX T dep k 0 L0 [] m (RL (fun x m' => lo ≤ x ∧ x ≤ hi ∧ Gam m' ∧ Fr W m m')) := by
  subst hL
  refine gx_imp (gx_h h ha hm) (fun v m' ⟨h1, h2, h3⟩ => ?_)
  obtain ⟨x, e, p1, p2⟩ := gR_l0 h1
  exact ⟨x, e, p1, p2, h2, h3⟩
/-- the second tier's -/
theorem gx_x {T : List Kd} {c : Con} {n g : Bool} {args : List AV} {m : Mm} (h : ConX T c n g) (ha : F2 gq0 c.2.1 args) (hm : Gam m) (he : Ext m) (hf : n = true → FS m) : GX T c.2.2.2.2 c.1 0 (layp args (mL c.1)) [] m (fun v m' => gR c.2.2.1 v ∧ Gam m' ∧ Ext m' ∧ Fr c.2.2.2.1 m m' ∧ (g = true → FS m')) := h args m ha hm he hf
theorem gx_xi {T : List Kd} {k dep : Nat} {Qs : List Q} {lo hi : Int} {W : List Nat} {n g : Bool} {args L0 : List AV} {m : Mm} (h : ConX T (k, Qs, (0, lo, hi), W, dep) n g) (ha : F2 gq0 Qs args) (hm : Gam m) (he : Ext m) (hf : n = true → FS m) (hL : layp args (mL k) = L0) : GX T dep k 0 L0 [] m (RI (fun x m' => lo ≤ x ∧ x ≤ hi ∧ Gam m' ∧ Ext m' ∧ Fr W m m' ∧ (g = true → FS m'))) := by
  subst hL
  refine gx_imp (gx_x h ha hm he hf) (fun v m' ⟨h1, h2, h3⟩ => ?_)
  obtain ⟨x, e, p1, p2⟩ := gR_i0 h1
  exact ⟨x, e, p1, p2, h2, h3⟩
theorem gx_xv {T : List Kd} {k dep : Nat} {Qs : List Q} {a b : Int} {W : List Nat} {n g : Bool} {args L0 : List AV} {m : Mm} (h : ConX T (k, Qs, (9, a, b), W, dep) n g) (ha : F2 gq0 Qs args) (hm : Gam m) (he : Ext m) (hf : n = true → FS m) (hL : layp args (mL k) = L0) : GX T dep k 0 L0 [] m (RV (fun m' => Gam m' ∧ Ext m' ∧ Fr W m m' ∧ (g = true → FS m'))) := by
  subst hL
  refine gx_imp (gx_x h ha hm he hf) (fun v m' ⟨h1, h2⟩ => ⟨?_, h2⟩)
  unfold gR at h1
  rw [if_pos (show ((9, a, b) : Q).1 = 9 from rfl)] at h1
  exact h1
/-- back to contracts -/
theorem h_gi {T : List Kd} {k dep : Nat} {Qs : List Q} {lo hi : Int} {W : List Nat} {args : List AV} {m : Mm} (h : GX T dep k 0 (layp args (mL k)) [] m (RI (fun x m' => lo ≤ x ∧ x ≤ hi ∧ Gam m' ∧ Fr W m m'))) : ∃ (v : AV) (m' : Mm), Rn dep k 0 (layp args (mL k)) [] T m (v, T, m') ∧ gR (0, lo, hi) v ∧ Gam m' ∧ Fr W m m' := by
  obtain ⟨v, m', r, x, rfl, p1, p2, p3, p4⟩ := h
  refine ⟨_, m', r, ?_, p3, p4⟩
  unfold gR
  rw [if_neg (show ¬ ((0, lo, hi) : Q).1 = 9 from (by decide : ¬ (0 : Nat) = 9))]
  exact ⟨Nat.zero_le _, gq_any p1 p2⟩
theorem h_gv {T : List Kd} {k dep : Nat} {a b : Int} {W : List Nat} {args : List AV} {m : Mm} (h : GX T dep k 0 (layp args (mL k)) [] m (RV (fun m' => Gam m' ∧ Fr W m m'))) : ∃ (v : AV) (m' : Mm), Rn dep k 0 (layp args (mL k)) [] T m (v, T, m') ∧ gR (9, a, b) v ∧ Gam m' ∧ Fr W m m' := by
  obtain ⟨v, m', r, p1, p3, p4⟩ := h
  refine ⟨_, m', r, ?_, p3, p4⟩
  unfold gR
  rw [if_pos (show ((9, a, b) : Q).1 = 9 from rfl)]
  exact p1
theorem h_xi {T : List Kd} {k dep : Nat} {lo hi : Int} {W : List Nat} {g : Bool} {args : List AV} {m : Mm} (h : GX T dep k 0 (layp args (mL k)) [] m (RI (fun x m' => lo ≤ x ∧ x ≤ hi ∧ Gam m' ∧ Ext m' ∧ Fr W m m' ∧ (g = true → FS m')))) : ∃ (v : AV) (m' : Mm), Rn dep k 0 (layp args (mL k)) [] T m (v, T, m') ∧ gR (0, lo, hi) v ∧ Gam m' ∧ Ext m' ∧ Fr W m m' ∧ (g = true → FS m') := by
  obtain ⟨v, m', r, x, rfl, p1, p2, p3⟩ := h
  refine ⟨_, m', r, ?_, p3⟩
  unfold gR
  rw [if_neg (show ¬ ((0, lo, hi) : Q).1 = 9 from (by decide : ¬ (0 : Nat) = 9))]
  exact ⟨Nat.zero_le _, gq_any p1 p2⟩
theorem h_xv {T : List Kd} {k dep : Nat} {a b : Int} {W : List Nat} {g : Bool} {args : List AV} {m : Mm} (h : GX T dep k 0 (layp args (mL k)) [] m (RV (fun m' => Gam m' ∧ Ext m' ∧ Fr W m m' ∧ (g = true → FS m')))) : ∃ (v : AV) (m' : Mm), Rn dep k 0 (layp args (mL k)) [] T m (v, T, m') ∧ gR (9, a, b) v ∧ Gam m' ∧ Ext m' ∧ Fr W m m' ∧ (g = true → FS m') := by
  obtain ⟨v, m', r, p1, p3⟩ := h
  refine ⟨_, m', r, ?_, p3⟩
  unfold gR
  rw [if_pos (show ((9, a, b) : Q).1 = 9 from rfl)]
  exact p1
