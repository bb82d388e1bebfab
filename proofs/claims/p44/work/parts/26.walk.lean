/-! walking: an instruction, a call, a branch, an end -/
section WK
variable {d j pc : Nat} {L S : List AV} {sh : List Kd} {m : Mm} {r : AV × List Kd × Mm}
theorem Rn_st {x : Row} {nx : Nat} {L' S' : List AV} {sh' : List Kd} {m' : Mm} (hx : row j pc = some x) (h1 : isRet x.1 = false) (h2 : (isCall x.1 && decide (0 ≤ x.2.2.1)) = false) (hq : stp pc x L S sh m = some (nx, L', S', sh', m')) (h : Rn d j nx L' S' sh' m' r) : Rn d j pc L S sh m r := Rn_step hx h1 h2 hq h
theorem Rn_ic {cn : ClassFile.Cond} {off : Int} {nx : Nat} {a : Int} {b c w : Nat} {x y : Int} {P : Prop} [Decidable P] (hx : row j pc = some (.if_icmp cn off, nx, a, b, c, w)) (hP : cnd cn x y = decide P) (h1 : P → Rn d j a.toNat L S sh m r) (h2 : ¬ P → Rn d j nx L S sh m r) : Rn d j pc L ((0, y) :: (0, x) :: S) sh m r := by
  by_cases hp : P
  · refine Rn_step hx rfl rfl (q := (a.toNat, L, S, sh, m)) ?_ (h1 hp)
    show some (if cnd cn x y = true then a.toNat else nx, L, S, sh, m) = _
    rw [hP, decide_eq_true hp]; rfl
  · refine Rn_step hx rfl rfl (q := (nx, L, S, sh, m)) ?_ (h2 hp)
    show some (if cnd cn x y = true then a.toNat else nx, L, S, sh, m) = _
    rw [hP, decide_eq_false hp]; rfl
theorem Rn_i0 {cn : ClassFile.Cond} {off : Int} {nx : Nat} {a : Int} {b c w : Nat} {x : Int} {P : Prop} [Decidable P] (hx : row j pc = some (.ifCond cn off, nx, a, b, c, w)) (hP : cnd cn x 0 = decide P) (h1 : P → Rn d j a.toNat L S sh m r) (h2 : ¬ P → Rn d j nx L S sh m r) : Rn d j pc L ((0, x) :: S) sh m r := by
  by_cases hp : P
  · refine Rn_step hx rfl rfl (q := (a.toNat, L, S, sh, m)) ?_ (h1 hp)
    show some (if cnd cn x 0 = true then a.toNat else nx, L, S, sh, m) = _
    rw [hP, decide_eq_true hp]; rfl
  · refine Rn_step hx rfl rfl (q := (nx, L, S, sh, m)) ?_ (h2 hp)
    show some (if cnd cn x 0 = true then a.toNat else nx, L, S, sh, m) = _
    rw [hP, decide_eq_false hp]; rfl
theorem Rn_rt {x : Row} {v v0 : AV} (hx : row j pc = some x) (h1 : isRet x.1 = true) (hq : retv j x.1 S = some v) (e : v = v0) : Rn d j pc L S sh m (v0, sh, m) := e ▸ Rn_ret hx h1 hq
def cOk (i : Instr) (k : Nat) (S : List AV) (sh : List Kd) : Bool := Nat.ble (mA k) S.length && Nat.ble (csum (S.drop (mA k))) 8 && Nat.ble (lay (S.take (mA k)).reverse).length (mL k) && rcv k (S.take (mA k)).reverse sh && styOk i k
theorem Rn_cl {x : Row} {k nx : Nat} {L0 S2 : List AV} {v : AV} {sh' : List Kd} {m' : Mm} (hx : row j pc = some x) (h1 : isRet x.1 = false) (h2 : (isCall x.1 && decide (0 ≤ x.2.2.1)) = true) (hk : x.2.2.1.toNat = k) (hn : x.2.1 = nx) (hc : cOk x.1 k S sh = true)
    (hL : layp (S.take (mA k)).reverse (mL k) = L0) (hq : Rn d k 0 L0 [] sh m (v, sh', m')) (hS : pushv v (S.drop (mA k)) = S2) (h : Rn (d + 1) j nx L S2 sh' m' r) : Rn (d + 1) j pc L S sh m r := by
  subst hk hn hL hS
  unfold cOk at hc
  simp only [Bool.and_eq_true] at hc
  obtain ⟨⟨⟨⟨g1, g2⟩, g3⟩, g4⟩, g5⟩ := hc
  exact Rn_call hx h1 h2 ⟨Nat.le_of_ble_eq_true g1, Nat.le_of_ble_eq_true g2, Nat.le_of_ble_eq_true g3, g4, g5⟩ hq h
theorem Rn_d1 {k : Nat} : Rn d j pc L S sh m r → Rn (d + k) j pc L S sh m r := by
  intro h
  induction k with
  | zero => exact h
  | succ k ih =>
    obtain ⟨n, h⟩ := ih
    refine ⟨n, ?_⟩
    have key : ∀ (n d j pc : Nat) (L S : List AV) (sh : List Kd) (m : Mm) (r : AV × List Kd × Mm), run n d j pc L S sh m = some r → run n (d + 1) j pc L S sh m = some r := by
      intro n
      induction n with
      | zero => intro d j pc L S sh m r h; cases h
      | succ n ih =>
        intro d j pc L S sh m r h
        cases hx : row j pc with
        | none => rw [run_none hx] at h; cases h
        | some x =>
          rw [run_some hx] at h ⊢
          by_cases h1 : isRet x.1 = true
          · rw [if_pos h1] at h ⊢
            exact h
          · rw [if_neg h1] at h ⊢
            by_cases h2 : (isCall x.1 && decide (0 ≤ x.2.2.1)) = true
            · rw [if_pos h2] at h ⊢
              match d, h with
              | 0, h => cases h
              | d' + 1, h =>
                dsimp only at h ⊢
                split at h
                · rename_i h3
                  rw [if_pos h3]
                  cases hq : run n d' x.2.2.1.toNat 0 (layp (S.take (mA x.2.2.1.toNat)).reverse (mL x.2.2.1.toNat)) [] sh m with
                  | none => rw [hq] at h; cases h
                  | some q =>
                    rw [hq] at h
                    rw [ih _ _ _ _ _ _ _ _ hq]
                    exact ih _ _ _ _ _ _ _ _ h
                · cases h
            · rw [if_neg h2] at h ⊢
              cases hq : stp pc x L S sh m with
              | none => rw [hq] at h; cases h
              | some q =>
                rw [hq] at h
                exact ih _ _ _ _ _ _ _ _ h
    exact key _ _ _ _ _ _ _ _ _ h
end WK
section WK2
variable {d j pc : Nat} {L S : List AV} {sh : List Kd} {m : Mm} {r : AV × List Kd × Mm} {nx b c w : Nat} {a : Int}
theorem Rn_lrem {x y : Int} (hx : row j pc = some (.lrem, nx, a, b, c, w)) (hy : ¬ y = 0) (h : Rn d j nx L ((1, x.tmod y) :: S) sh m r) : Rn d j pc L ((1, y) :: (1, x) :: S) sh m r := by
  refine Rn_step hx rfl rfl (q := (nx, L, (1, x.tmod y) :: S, sh, m)) ?_ h
  show (if y = 0 then none else _) = _
  rw [if_neg hy]
theorem Rn_ldiv {x y : Int} (hx : row j pc = some (.ldiv, nx, a, b, c, w)) (hy : ¬ y = 0) (h : Rn d j nx L ((1, w64 (x.tdiv y)) :: S) sh m r) : Rn d j pc L ((1, y) :: (1, x) :: S) sh m r := by
  refine Rn_step hx rfl rfl (q := (nx, L, (1, w64 (x.tdiv y)) :: S, sh, m)) ?_ h
  show (if y = 0 then none else _) = _
  rw [if_neg hy]
theorem Rn_irem {x y : Int} (hx : row j pc = some (.irem, nx, a, b, c, w)) (hy : ¬ y = 0) (h : Rn d j nx L ((0, x.tmod y) :: S) sh m r) : Rn d j pc L ((0, y) :: (0, x) :: S) sh m r := by
  refine Rn_step hx rfl rfl (q := (nx, L, (0, x.tmod y) :: S, sh, m)) ?_ h
  show (if y = 0 then none else _) = _
  rw [if_neg hy]
theorem Rn_idiv {x y : Int} (hx : row j pc = some (.idiv, nx, a, b, c, w)) (hy : ¬ y = 0) (h : Rn d j nx L ((0, w32 (x.tdiv y)) :: S) sh m r) : Rn d j pc L ((0, y) :: (0, x) :: S) sh m r := by
  refine Rn_step hx rfl rfl (q := (nx, L, (0, w32 (x.tdiv y)) :: S, sh, m)) ?_ h
  show (if y = 0 then none else _) = _
  rw [if_neg hy]
end WK2
