/-! what a program checks of the rows: they are the decoded bytes, and their words stand in the tables -/
def inR (x : Int) : Bool := decide (-2147483648 ≤ x) && decide (x ≤ 2147483647)
def inQ (x : Int) : Bool := decide (-9223372036854775808 ≤ x) && decide (x ≤ 9223372036854775807)
def spY (a : Int) : MethodName :=
  if a = -1 then ⟨"java/lang/Object", "<init>", "()V"⟩
  else if a = -2 then ⟨"java/lang/System", "arraycopy", "(Ljava/lang/Object;ILjava/lang/Object;II)V"⟩
  else if a = -3 then ⟨"java/lang/Math", "max", "(II)I"⟩
  else if a = -4 then ⟨"java/lang/Math", "min", "(II)I"⟩
  else if a = -5 then ⟨"java/lang/Math", "max", "(JJ)J"⟩
  else if a = -6 then ⟨"java/lang/String", "length", "()I"⟩
  else ⟨"java/lang/String", "charAt", "(I)C"⟩
def wAt (w : Nat) (c : Jvm.Cond) : Bool := decide ((wlk (w / 1000))[w % 1000]? = some c)
theorem wAt_in {w : Nat} {c : Jvm.Cond} (h : wAt w c = true) : c ∈ lw_tbl := by
  have h := of_decide_eq_true h
  exact wlk_in _ _ (List.mem_of_getElem? h)
def fldOk (own : String) (i : Nat) (a : Int) (b c w : Nat) : Bool := match clF[a.toNat]? with
  | some C => match C.2.2.2[b]? with
    | some f => decide (0 ≤ a) && (c % 10 == f.2.2.2.1) && wAt w (if c / 10 = 1 then .fieldLinkNest own i C.1 f.1 f.2.1 "NeckRider" else .fieldLink own i C.1 f.1 f.2.1)
    | none => false
  | none => false
def putOk (own : String) (ini : Bool) (a : Int) (b c : Nat) : Bool := match clF[a.toNat]? with
  | some C => match C.2.2.2[b]? with
    | some f => if f.2.2.1 = true then ini && decide (C.1 = own) && decide (c / 10 = 0) else true
    | none => false
  | none => false
def mtdOk (own : String) (i : Nat) (a : Int) (b c w : Nat) : Bool :=
  if 0 ≤ a then (match mtab[a.toNat]? with
    | some M => decide (a < 316) && b == M.2.2.2.2.1.1 && wAt w (if c / 10 = 1 then .methodLinkNest own i M.1 "NeckRider" else .methodLink own i M.1)
    | none => false)
  else wAt w (.methodLink own i (spY a))
def ecn (k : Nat) : String := if k = 104 then "NeckRider$Slot" else if k = 105 then "NeckRider$Isle" else if k = 106 then "NeckRider$Acts" else "NeckRider$Ride"
def rowL (own : String) (ini : Bool) (pc : Nat) (r : Row) : Bool := match r with
    | (ins, _, a, b, c, w) => match ins with
      | .iconst n => decide (n = a) && inR a
      | .bipush n => decide ((Int8.ofInt n).toInt = a)
      | .sipush n => decide ((Int16.ofInt n).toInt = a)
      | .lconst n => decide ((n.val : Int) = a)
      | .ldc i => if b = 0 then inR a && wAt w (.constant own i (Int32.ofInt a)) else (match strF[a.toNat - 1000000]? with
        | some t => decide (1000000 ≤ a) && wAt w (.stringRef own i t)
        | none => false)
      | .ldc_w i => if b = 0 then inR a && wAt w (.constant own i (Int32.ofInt a)) else (match strF[a.toNat - 1000000]? with
        | some t => decide (1000000 ≤ a) && wAt w (.stringRef own i t)
        | none => false)
      | .ldc2_w i => inQ a && wAt w (.constantLong own i (Int64.ofInt a))
      | .goto o => decide ((pc : Int) + o = a) && decide (0 ≤ a)
      | .ifCond _ o => decide ((pc : Int) + o = a) && decide (0 ≤ a)
      | .if_icmp _ o => decide ((pc : Int) + o = a) && decide (0 ≤ a)
      | .getfield i => fldOk own i a b c w
      | .putfield i => fldOk own i a b c w && putOk own ini a b c
      | .new i => (match clF[a.toNat]? with
        | some C => decide (0 ≤ a) && b == C.2.2.2.length && wAt w (.classLink own i C.1)
        | none => false)
      | .anewarray i => decide (104 ≤ a) && decide (a < 108) && wAt w (.classLink own i (ecn a.toNat))
      | .invokevirtual i => mtdOk own i a b c w
      | .invokespecial i => mtdOk own i a b c w
      | .invokestatic i => mtdOk own i a b c w
      | _ => true
def rowOk (own : String) (ini : Bool) (cc : ByteArray) (pc : Nat) (bs : List UInt8) (r : Row) : Bool :=
  fdc cc pc bs r.1 (r.2.1 - pc) && decide (pc < r.2.1) && rowL own ini pc r
def chkL (own : String) (ini : Bool) (cc : ByteArray) : Nat → List UInt8 → List (Option Row) → Bool
  | _, _, [] => true
  | pc, bs, none :: l => chkL own ini cc (pc + 1) bs.tail l
  | pc, bs, some r :: l => rowOk own ini cc pc bs r && chkL own ini cc (pc + 1) bs.tail l
def chkM (own : String) (ini : Bool) (cc : ByteArray) : Nat → List UInt8 → List (List (Option Row)) → Bool
  | _, _, [] => true
  | pc, bs, l :: ls => (ls.isEmpty || l.length == 64) && chkL own ini cc pc bs l && chkM own ini cc (pc + l.length) (bs.drop l.length) ls
def chkA : List (List (List (Option Row))) → List MR → Bool
  | l :: ls, M :: Ms => chkM M.1.cls (decide (M.1.name = "<init>")) M.2.1 0 M.2.1.data.toList l && chkA ls Ms
  | [], [] => true
  | _, _ => false
set_option maxRecDepth 100000 in
set_option maxHeartbeats 0 in
theorem chk_0 : chkA ptab_0 mtab_0 = true := by decide +kernel
set_option maxRecDepth 100000 in
set_option maxHeartbeats 0 in
theorem chk_1 : chkA ptab_1 mtab_1 = true := by decide +kernel
set_option maxRecDepth 100000 in
set_option maxHeartbeats 0 in
theorem chk_2 : chkA ptab_2 mtab_2 = true := by decide +kernel
set_option maxRecDepth 100000 in
set_option maxHeartbeats 0 in
theorem chk_3 : chkA ptab_3 mtab_3 = true := by decide +kernel
set_option maxRecDepth 100000 in
set_option maxHeartbeats 0 in
theorem chk_4 : chkA ptab_4 mtab_4 = true := by decide +kernel
set_option maxRecDepth 100000 in
set_option maxHeartbeats 0 in
theorem chk_5 : chkA ptab_5 mtab_5 = true := by decide +kernel
set_option maxRecDepth 100000 in
set_option maxHeartbeats 0 in
theorem chk_6 : chkA ptab_6 mtab_6 = true := by decide +kernel
set_option maxRecDepth 100000 in
set_option maxHeartbeats 0 in
theorem chk_7 : chkA ptab_7 mtab_7 = true := by decide +kernel
theorem chkA_app {a c : List (List (List (Option Row)))} {b d : List MR} (h1 : chkA a b = true) (h2 : chkA c d = true) : chkA (a ++ c) (b ++ d) = true := by
  induction a generalizing b with
  | nil => cases b with
    | nil => exact h2
    | cons M Ms => cases h1
  | cons l ls ih => cases b with
    | nil => cases h1
    | cons M Ms =>
      simp only [chkA, Bool.and_eq_true] at h1
      simp only [List.cons_append, chkA, Bool.and_eq_true]
      exact ⟨h1.1, ih h1.2⟩
theorem chk_A : chkA ptab mtab = true := by
  unfold ptab mtab
  exact chkA_app chk_0 (chkA_app chk_1 (chkA_app chk_2 (chkA_app chk_3 (chkA_app chk_4 (chkA_app chk_5 (chkA_app chk_6 chk_7))))))
theorem chkA_at {a : List (List (List (Option Row)))} {b : List MR} (h : chkA a b = true) : ∀ (j : Nat) (l : List (List (Option Row))), a[j]? = some l → ∃ M : MR, b[j]? = some M ∧ chkM M.1.cls (decide (M.1.name = "<init>")) M.2.1 0 M.2.1.data.toList l = true := by
  induction a generalizing b with
  | nil => intro j l q; simp at q
  | cons x xs ih => cases b with
    | nil => cases h
    | cons M Ms =>
      simp only [chkA, Bool.and_eq_true] at h
      intro j l q
      cases j with
      | zero =>
        simp only [List.getElem?_cons_zero, Option.some.injEq] at q
        subst q
        exact ⟨M, rfl, h.1⟩
      | succ j =>
        simp only [List.getElem?_cons_succ] at q ⊢
        exact ih h.2 j l q
theorem chkL_at {own : String} {ini : Bool} {cc : ByteArray} : ∀ (l : List (Option Row)) (pc : Nat) (bs : List UInt8), chkL own ini cc pc bs l = true → ∀ (k : Nat) (r : Row), l[k]? = some (some r) → rowOk own ini cc (pc + k) (bs.drop k) r = true := by
  intro l
  induction l with
  | nil => intro pc bs _ k r q; simp at q
  | cons x xs ih =>
    intro pc bs h k r q
    cases k with
    | zero =>
      simp only [List.getElem?_cons_zero, Option.some.injEq] at q
      subst q
      simp only [chkL, Bool.and_eq_true] at h
      exact h.1
    | succ k =>
      simp only [List.getElem?_cons_succ] at q
      have h2 : chkL own ini cc (pc + 1) bs.tail xs = true := by
        cases x with
        | none => exact h
        | some y => simp only [chkL, Bool.and_eq_true] at h; exact h.2
      have h3 := ih (pc + 1) bs.tail h2 k r q
      rw [show pc + (k + 1) = pc + 1 + k by omega, show bs.drop (k + 1) = bs.tail.drop k by rw [← List.drop_one, List.drop_drop, Nat.add_comm]]
      exact h3
theorem chkM_at {own : String} {ini : Bool} {cc : ByteArray} : ∀ (ls : List (List (Option Row))) (pc : Nat) (bs : List UInt8), chkM own ini cc pc bs ls = true → ∀ (i k : Nat) (l : List (Option Row)) (r : Row), ls[i]? = some l → l[k]? = some (some r) → rowOk own ini cc (pc + (64 * i + k)) (bs.drop (64 * i + k)) r = true := by
  intro ls
  induction ls with
  | nil => intro pc bs _ i k l r q; simp at q
  | cons x xs ih =>
    intro pc bs h i k l r q1 q2
    simp only [chkM, Bool.and_eq_true] at h
    cases i with
    | zero =>
      simp only [List.getElem?_cons_zero, Option.some.injEq] at q1
      subst q1
      have h3 := chkL_at _ _ _ h.1.2 k r q2
      rw [show 64 * 0 + k = k by omega]
      exact h3
    | succ i =>
      simp only [List.getElem?_cons_succ] at q1
      have hl : x.length = 64 := by
        have h4 := h.1.1
        simp only [Bool.or_eq_true, beq_iff_eq, List.isEmpty_iff] at h4
        rcases h4 with h4 | h4
        · subst h4; simp at q1
        · exact h4
      have h3 := ih _ _ h.2 i k l r q1 q2
      rw [hl, List.drop_drop] at h3
      rw [show pc + (64 * (i + 1) + k) = pc + 64 + (64 * i + k) by omega, show 64 * (i + 1) + k = 64 + (64 * i + k) by omega]
      exact h3
def row (j pc : Nat) : Option Row := match ptab[j]? with
  | some l => match l[pc / 64]? with
    | some t => match t[pc % 64]? with
      | some r => r
      | none => none
    | none => none
  | none => none
/-- every row is what the bytes say, and its word stands in the tables -/
theorem row_ok {j pc : Nat} {r : Row} (h : row j pc = some r) : ∃ M : MR, mtab[j]? = some M ∧ rowOk M.1.cls (decide (M.1.name = "<init>")) M.2.1 pc (M.2.1.data.toList.drop pc) r = true := by
  unfold row at h
  split at h
  · rename_i l hl
    split at h
    · rename_i t ht
      split at h
      · rename_i x hx
        subst h
        obtain ⟨M, h1, h2⟩ := chkA_at chk_A j l hl
        have h3 := chkM_at l 0 _ h2 (pc / 64) (pc % 64) t r ht hx
        rw [show 0 + (64 * (pc / 64) + pc % 64) = pc by omega, show 64 * (pc / 64) + pc % 64 = pc by omega] at h3
        exact ⟨M, h1, h3⟩
      · cases h
    · cases h
  · cases h
