/-! objects and arrays -/
section SH
variable {p : Program} {l : Launch} {e : Env} {R : Room} {s : State} {m : MethodId} {args : Array Value} {below : List Frame} {meth : Method} {c : Code} {H : Heap} {locs : List Loc} {cells slots : Nat} {Q : State → Prop}
variable {G : GG} {M : MR} {pc nx b cw w : Nat} {a : Int} {L S : List AV} {sh : List Kd} {mm : Mm} {ls : Array Slot} {q : St5} {k0 s0 : Nat}
theorem ent_obj (G : GG) {kd : Kd} (f : Nat → Int) (h : kd.1 < 100) : ent G kd f = .inr (kd.1, (List.range kd.2).map (fun j => fv G (fty kd.1 j) (f j))) := if_pos h
theorem ent_int (G : GG) {n : Nat} (f : Nat → Int) : ent G (100, n) f = .inl (G.2.2.2.2 0, n, .inl (fun j => Int32.ofInt (f j))) := rfl
theorem ent_long (G : GG) {n : Nat} (f : Nat → Int) : ent G (101, n) f = .inl (G.2.2.2.2 1, n, .inr (.inl (fun j => Int64.ofInt (f j)))) := rfl
theorem ent_byte (G : GG) {n : Nat} (f : Nat → Int) : ent G (102, n) f = .inl (G.2.2.2.2 2, n, .inl (fun j => Int32.ofInt (f j))) := rfl
theorem ent_bool (G : GG) {n : Nat} (f : Nat → Int) : ent G (103, n) f = .inl (G.2.2.2.2 3, n, .inl (fun j => Int32.ofInt (f j))) := rfl
theorem ent_ref (G : GG) {kd : Kd} (f : Nat → Int) (h : 104 ≤ kd.1) : ent G kd f = .inl (G.2.2.2.2 (kd.1 - 100), kd.2, .inr (.inr (.inr (.inr (fun j => if f j < 0 then none else some (adr G (f j).toNat)))))) := by
  unfold ent
  rw [if_neg (by omega), if_neg (by omega), if_neg (by omega)]
theorem upd_i {m : Mm} {o i : Nat} {v : Int} : upd (fun j => Int32.ofInt (m o j)) i (Int32.ofInt v) = fun j => Int32.ofInt (nu_up m o i v o j) := by
  funext j
  unfold upd nu_up
  by_cases h : j = i
  · rw [if_pos h, if_pos rfl, if_pos h]
  · rw [if_neg h, if_pos rfl, if_neg h]
theorem upd_l {m : Mm} {o i : Nat} {v : Int} : vp_updL (fun j => Int64.ofInt (m o j)) i (Int64.ofInt v) = fun j => Int64.ofInt (nu_up m o i v o j) := by
  funext j
  unfold vp_updL nu_up
  by_cases h : j = i
  · rw [if_pos h, if_pos rfl, if_pos h]
  · rw [if_neg h, if_pos rfl, if_neg h]
theorem upd_r {G : GG} {m : Mm} {o i : Nat} {v : Int} (hv : 0 ≤ v) : va_up (fun j => if m o j < 0 then none else some (adr G (m o j).toNat)) i (some (adr G v.toNat)) = fun j => if nu_up m o i v o j < 0 then none else some (adr G (nu_up m o i v o j).toNat) := by
  funext j
  unfold va_up nu_up
  by_cases h : j = i
  · rw [if_pos h, if_pos rfl, if_pos h, if_neg (by omega)]
  · rw [if_neg h, if_pos rfl, if_neg h]
/-- the world behind a write -/
theorem HR_up {o i : Nat} {v : Int} {kd : Kd} {en : va_E} {H1 : Heap} {locs1 : List Loc} (hH : HR G sh mm s H locs) (h0 : 0 < o) (ho : sh[o]? = some kd) (hz : H1.size = H.size) (he : en = ent G kd (nu_up mm o i v o)) (hv : okc kd i v)
    (hP : va_P G.2.2.2.1 cls ((wsO G sh mm).set (o - 1) (G.1 + (o - 1), en)) H1) (hS : va_S (AZ G) s.heap H1 locs1) : HR G sh (nu_up mm o i v) s H1 locs1 := by
  obtain ⟨-, h2, -, h4, h5, h6⟩ := hH
  refine ⟨?_, by rw [hz]; exact h2, hS, h4, okm_up h5 (fun kd' hk => ?_), h6.to rfl (fun j => ?_)⟩
  · rw [wsO_set G mm h0 ho he] at hP
    exact hP
  · cases ho.symm.trans hk
    exact hv
  · unfold nu_up
    rw [if_neg (by omega)]
theorem ref_adr {o : Int} (h0 : 0 < o) {kd : Kd} (ho : sh[o.toNat]? = some kd) (hl : sh.length ≤ 1000000) : tv G (2, o) = .ref (G.1 + (o.toNat - 1)) := by
  show Value.ref (adr G o.toNat) = _
  have := (List.getElem?_eq_some_iff.mp ho).1
  rw [adr_small G (by omega) (by omega)]
end SH
