/-! the bounds are sound -/
def gi (v : VI) (x : Int) : Prop := ∀ q, v = some q → q.1 ≤ x ∧ x ≤ q.2
def ga (a : AI) (b : AV) : Prop := b.1 = a.1 ∧ gi a.2 b.2
def gL : List AI → List AV → Prop
  | [], [] => True
  | a :: as, b :: bs => ga a b ∧ gL as bs
  | _, _ => False
def gm (F : Nat → Option Kd) (c : Nat) (M : MI) (m : Mm) : Prop := ∀ (o : Nat) (kd : Kd), lk F c o = some kd → ∀ i, i < kd.2 → gi (rd M o i) (m o i)
def gq (F : Nat → Option Kd) (T : List Kd) (q : SI5) (q' : St5) : Prop := q'.1 = q.1 ∧ gL q.2.1 q'.2.1 ∧ gL q.2.2.1 q'.2.2.1 ∧ q'.2.2.2.1 = T.take q.2.2.2.1 ∧ q.2.2.2.1 ≤ T.length ∧ gm F q.2.2.2.1 q.2.2.2.2 q'.2.2.2.2
def RO (F : Nat → Option Kd) (T : List Kd) (o : Option SI5) (o' : Option St5) : Prop := ∀ q, o = some q → ∃ q', o' = some q' ∧ gq F T q q'
theorem gi_n {x : Int} : gi none x := fun _ h => by cases h
theorem gi_1 {x : Int} : gi (one x) x := fun q h => by cases h; exact ⟨Int.le_refl _, Int.le_refl _⟩
theorem cst_ok {v : VI} {c x : Int} (h : cst v = some c) (g : gi v x) : x = c := by
  unfold cst at h
  split at h
  · rename_i q
    split at h
    · rename_i e
      obtain ⟨h1, h2⟩ := g q rfl
      cases h
      omega
    · cases h
  · cases h
theorem bin_ok {f : Int → Int → Int} {x y : VI} {a b : Int} (ha : gi x a) (hb : gi y b) : gi (binI f x y) (f a b) := by
  unfold binI
  split
  · rename_i c hc
    split
    · rename_i d hd
      rw [cst_ok hc ha, cst_ok hd hb]
      exact gi_1
    · exact gi_n
  · exact gi_n
theorem un_ok {f : Int → Int} {x : VI} {a : Int} (ha : gi x a) : gi (unI f x) (f a) := by
  unfold unI
  split
  · rename_i c hc
    rw [cst_ok hc ha]
    exact gi_1
  · exact gi_n
theorem ltI_ok {x y : VI} {a b : Int} {r : Bool} (h : ltI x y = some r) (ha : gi x a) (hb : gi y b) : decide (a < b) = r := by
  unfold ltI at h
  split at h
  · rename_i q
    split at h
    · rename_i s
      have h1 := ha q rfl
      have h2 := hb s rfl
      split at h
      · cases h
        exact decide_eq_true (by omega)
      · split at h
        · cases h
          exact decide_eq_false (by omega)
        · cases h
    · cases h
  · cases h
theorem eqI_ok {x y : VI} {a b : Int} {r : Bool} (h : eqI x y = some r) (ha : gi x a) (hb : gi y b) : decide (a = b) = r := by
  unfold eqI at h
  split at h
  · rename_i q
    split at h
    · rename_i s
      have h1 := ha q rfl
      have h2 := hb s rfl
      split at h
      · cases h
        exact decide_eq_false (by omega)
      · split at h
        · cases h
          exact decide_eq_false (by omega)
        · split at h
          · cases h
            exact decide_eq_true (by omega)
          · cases h
    · cases h
  · cases h
theorem cndI_ok {c : ClassFile.Cond} {x y : VI} {a b : Int} {r : Bool} (h : cndI c x y = some r) (ha : gi x a) (hb : gi y b) : cnd c a b = r := by
  cases c
  · exact eqI_ok h ha hb
  · obtain ⟨t, h1, rfl⟩ := Option.map_eq_some_iff.mp h
    have := eqI_ok h1 ha hb
    unfold cnd
    rw [← this]
    simp
  · exact ltI_ok h ha hb
  · obtain ⟨t, h1, rfl⟩ := Option.map_eq_some_iff.mp h
    have := ltI_ok h1 ha hb
    unfold cnd
    rw [← this, ← decide_not]
    exact decide_eq_decide.mpr (by omega)
  · exact ltI_ok h hb ha
  · obtain ⟨t, h1, rfl⟩ := Option.map_eq_some_iff.mp h
    have := ltI_ok h1 hb ha
    unfold cnd
    rw [← this, ← decide_not]
    exact decide_eq_decide.mpr (by omega)
theorem lcI_ok {x y : VI} {a b : Int} (ha : gi x a) (hb : gi y b) : gi (lcI x y) (if a < b then -1 else if a = b then 0 else 1) := by
  unfold lcI
  split
  · rename_i q
    split
    · rename_i s
      have h1 := ha q rfl
      have h2 := hb s rfl
      intro z hz
      cases hz
      dsimp only
      rcases (show a < b ∨ a = b ∨ b < a by omega) with h | h | h
      · rw [if_pos h]
        refine ⟨?_, ?_⟩ <;> (repeat' split) <;> omega
      · rw [if_neg (show ¬ a < b by omega), if_pos h]
        refine ⟨?_, ?_⟩ <;> (repeat' split) <;> omega
      · rw [if_neg (show ¬ a < b by omega), if_neg (show ¬ a = b by omega)]
        refine ⟨?_, ?_⟩ <;> (repeat' split) <;> omega
    · exact gi_n
  · exact gi_n
theorem in01_ok {v : VI} {x : Int} (h : in01 v = true) (g : gi v x) : x = 0 ∨ x = 1 := by
  unfold in01 at h
  split at h
  · rename_i q
    simp only [Bool.and_eq_true, decide_eq_true_eq] at h
    have := g q rfl
    omega
  · cases h
theorem nnI_ok {v : VI} {x : Int} (h : nnI v = true) (g : gi v x) : 0 ≤ x := by
  unfold nnI at h
  split at h
  · rename_i q
    simp only [decide_eq_true_eq] at h
    have := g q rfl
    omega
  · cases h
/-- the shape as a program knows it: what it knows is so -/
def FT (F : Nat → Option Kd) (T : List Kd) : Prop := ∀ (o : Nat) (kd : Kd), F o = some kd → T[o]? = some kd
theorem lk_sh {F : Nat → Option Kd} {T : List Kd} (hF : FT F T) {c o : Nat} {kd : Kd} (h : lk F c o = some kd) : (T.take c)[o]? = some kd := by
  unfold lk at h
  split at h
  · rename_i hc
    rw [List.getElem?_take, if_pos hc]
    exact hF o kd h
  · cases h
theorem gL_len : ∀ {L : List AI} {L' : List AV}, gL L L' → L'.length = L.length
  | [], [], _ => rfl
  | _ :: _, _ :: _, h => by rw [List.length_cons, List.length_cons, gL_len h.2]
  | [], _ :: _, h => h.elim
  | _ :: _, [], h => h.elim
theorem gL_get : ∀ {L : List AI} {L' : List AV} {i : Nat} {a : AI}, gL L L' → L[i]? = some a → ∃ b, L'[i]? = some b ∧ ga a b
  | [], [], _, _, _, h => by cases h
  | a :: _, b :: _, 0, _, g, h => by cases h; exact ⟨b, rfl, g.1⟩
  | _ :: _, _ :: _, i + 1, _, g, h => by
    obtain ⟨b, h1, h2⟩ := gL_get (i := i) g.2 h
    exact ⟨b, h1, h2⟩
  | [], _ :: _, _, _, g, _ => g.elim
  | _ :: _, [], _, _, g, _ => g.elim
theorem gL_set : ∀ {L : List AI} {L' : List AV} {i : Nat} {a : AI} {b : AV}, gL L L' → ga a b → gL (L.set i a) (L'.set i b)
  | [], [], _, _, _, _, _ => trivial
  | _ :: _, _ :: _, 0, _, _, g, h => ⟨h, g.2⟩
  | _ :: _, _ :: _, _ + 1, _, _, g, h => ⟨g.1, gL_set g.2 h⟩
  | [], _ :: _, _, _, _, g, _ => g.elim
  | _ :: _, [], _, _, _, g, _ => g.elim
theorem gL_app : ∀ {L : List AI} {L' : List AV} {K : List AI} {K' : List AV}, gL L L' → gL K K' → gL (L ++ K) (L' ++ K')
  | [], [], _, _, _, h => h
  | _ :: _, _ :: _, _, _, g, h => ⟨g.1, gL_app g.2 h⟩
  | [], _ :: _, _, _, g, _ => g.elim
  | _ :: _, [], _, _, g, _ => g.elim
theorem gL_rev : ∀ {L : List AI} {L' : List AV}, gL L L' → gL L.reverse L'.reverse
  | [], [], _ => trivial
  | a :: L, b :: L', g => by
    rw [List.reverse_cons, List.reverse_cons]
    exact gL_app (gL_rev g.2) ⟨g.1, trivial⟩
  | [], _ :: _, g => g.elim
  | _ :: _, [], g => g.elim
theorem gL_take : ∀ {L : List AI} {L' : List AV} {n : Nat}, gL L L' → gL (L.take n) (L'.take n)
  | [], [], _, _ => by rw [List.take_nil, List.take_nil]; trivial
  | _ :: _, _ :: _, 0, _ => trivial
  | _ :: _, _ :: _, n + 1, g => ⟨g.1, gL_take (n := n) g.2⟩
  | [], _ :: _, _, g => g.elim
  | _ :: _, [], _, g => g.elim
theorem gL_drop : ∀ {L : List AI} {L' : List AV} {n : Nat}, gL L L' → gL (L.drop n) (L'.drop n)
  | [], [], _, _ => by rw [List.drop_nil, List.drop_nil]; trivial
  | _ :: _, _ :: _, 0, g => g
  | _ :: _, _ :: _, n + 1, g => gL_drop (n := n) g.2
  | [], _ :: _, _, g => g.elim
  | _ :: _, [], _, g => g.elim
theorem gL_rep : ∀ {n : Nat}, gL (List.replicate n (9, none)) (List.replicate n (9, 0))
  | 0 => trivial
  | n + 1 => ⟨⟨rfl, gi_n⟩, gL_rep (n := n)⟩
theorem gL_lay : ∀ {L : List AI} {L' : List AV}, gL L L' → gL (layI L) (lay L')
  | [], [], _ => trivial
  | a :: L, b :: L', g => by
    unfold layI lay
    rw [g.1.1]
    by_cases h : a.1 = 1
    · rw [if_pos h, if_pos h]
      exact ⟨g.1, ⟨rfl, gi_n⟩, gL_lay g.2⟩
    · rw [if_neg h, if_neg h]
      exact ⟨g.1, gL_lay g.2⟩
  | [], _ :: _, g => g.elim
  | _ :: _, [], g => g.elim
theorem gL_layp {L : List AI} {L' : List AV} {n : Nat} (g : gL L L') : gL (laypI L n) (layp L' n) := by
  unfold laypI layp
  have h := gL_lay g
  rw [gL_len h]
  exact gL_app h gL_rep
theorem gL_csum : ∀ {L : List AI} {L' : List AV}, gL L L' → csum L' = csumI L
  | [], [], _ => rfl
  | a :: L, b :: L', g => by
    have := gL_csum g.2
    unfold csum csumI at *
    rw [List.map_cons, List.sum_cons, List.map_cons, List.sum_cons, this]
    unfold ctg
    rw [g.1.1]
  | [], _ :: _, g => g.elim
  | _ :: _, [], g => g.elim
theorem gL_kl1 {L : List AI} {L' : List AV} {i : Nat} (g : gL L L') : gL (kl1I L i) (kl1 L' i) := by
  unfold kl1I kl1
  match i with
  | 0 => exact g
  | k + 1 =>
    dsimp only
    cases h : L[k]? with
    | none =>
      have h2 : L'[k]? = none := by
        rw [List.getElem?_eq_none_iff] at h ⊢
        rw [gL_len g]
        exact h
      rw [h2]
      exact g
    | some a =>
      obtain ⟨b, h1, h2⟩ := gL_get g h
      rw [h1]
      dsimp only
      rw [h2.1]
      by_cases h3 : a.1 = 1
      · rw [if_pos h3, if_pos h3]
        exact gL_set g ⟨rfl, gi_n⟩
      · rw [if_neg h3, if_neg h3]
        exact g
theorem gL_st1 {L : List AI} {L' : List AV} {i : Nat} {a : AI} {b : AV} (g : gL L L') (h : ga a b) : gL (st1I L i a) (st1 L' i b) := gL_set (gL_kl1 g) h
theorem gL_st2 {L : List AI} {L' : List AV} {i : Nat} {a : AI} {b : AV} (g : gL L L') (h : ga a b) : gL (st2I L i a) (st2 L' i b) := gL_set (gL_st1 g h) ⟨rfl, gi_n⟩
section RO
variable {F : Nat → Option Kd} {T : List Kd} {c : Nat} {M : MI} {m : Mm}
theorem RO_n {o : Option St5} : RO F T none o := fun _ h => by cases h
theorem RO_s {n c : Nat} {L S : List AI} {L' S' : List AV} {M : MI} {m : Mm} (hL : gL L L') (hS : gL S S') (hc : c ≤ T.length) (hM : gm F c M m) : RO F T (some (n, L, S, c, M)) (some (n, L', S', T.take c, m)) := fun q h => by
  cases h
  exact ⟨_, rfl, rfl, hL, hS, rfl, hc, hM⟩
theorem RO_pp {t : Nat} {S : List AI} {S' : List AV} {f : VI × List AI → Option SI5} {g : Int × List AV → Option St5} (hS : gL S S') (h : ∀ x S1 y S1', gi x y → gL S1 S1' → RO F T (f (x, S1)) (g (y, S1'))) : RO F T ((ppI t S).bind f) ((pp t S').bind g) := by
  match S, S', hS with
  | [], [], _ => exact RO_n
  | a :: S, b :: S', hS =>
    unfold ppI pp
    dsimp only
    rw [hS.1.1]
    by_cases e : a.1 = t
    · rw [if_pos e, if_pos e]
      exact h _ _ _ _ hS.1.2 hS.2
    · rw [if_neg e]
      exact RO_n
theorem RO_pc {t : Nat} {S : List AI} {S' : List AV} {f : Int × List AI → Option SI5} {g : Int × List AV → Option St5} (hS : gL S S') (h : ∀ x S1 S1', gL S1 S1' → RO F T (f (x, S1)) (g (x, S1'))) : RO F T ((pcI t S).bind f) ((pp t S').bind g) := by
  match S, S', hS with
  | [], [], _ => exact RO_n
  | a :: S, b :: S', hS =>
    unfold pcI pp
    dsimp only
    rw [hS.1.1]
    by_cases e : a.1 = t
    · rw [if_pos e, if_pos e]
      split
      · rename_i x hx
        have := cst_ok hx hS.1.2
        rw [this]
        exact h _ _ _ hS.2
      · exact RO_n
    · rw [if_neg e]
      exact RO_n
theorem RO_gl {t i : Nat} {L : List AI} {L' : List AV} {f : VI → Option SI5} {g : Int → Option St5} (hL : gL L L') (h : ∀ x y, gi x y → RO F T (f x) (g y)) : RO F T ((glI L t i).bind f) ((gl L' t i).bind g) := by
  unfold glI gl
  cases e : L[i]? with
  | none => exact RO_n
  | some a =>
    obtain ⟨b, h1, h2⟩ := gL_get hL e
    rw [h1]
    dsimp only
    rw [h2.1]
    by_cases e2 : a.1 = t
    · rw [if_pos e2, if_pos e2]
      exact h _ _ h2.2
    · rw [if_neg e2]
      exact RO_n
theorem RO_lk {k : Nat} {f : Kd → Option SI5} {g : Kd → Option St5} (hF : FT F T) (h : ∀ kd, lk F c k = some kd → RO F T (f kd) (g kd)) : RO F T ((lk F c k).bind f) (((T.take c)[k]?).bind g) := by
  cases e : lk F c k with
  | none => exact RO_n
  | some kd => rw [lk_sh hF e]; exact h kd e
theorem RO_o {α : Type} {o : Option α} {f : α → Option SI5} {g : α → Option St5} (h : ∀ x, o = some x → RO F T (f x) (g x)) : RO F T (o.bind f) (o.bind g) := by
  cases o with
  | none => exact RO_n
  | some x => exact h x rfl
theorem RO_i {P Q : Prop} [Decidable P] [Decidable Q] {a : Option SI5} {b b' : Option St5} (h1 : P → Q) (h2 : P → RO F T a b) : RO F T (if P then a else none) (if Q then b else b') := by
  by_cases h : P
  · rw [if_pos h, if_pos (h1 h)]; exact h2 h
  · rw [if_neg h]; exact RO_n
theorem RO_e {P : Prop} [Decidable P] {a a' : Option SI5} {b b' : Option St5} (h1 : P → RO F T a b) (h2 : ¬ P → RO F T a' b') : RO F T (if P then a else a') (if P then b else b') := by
  by_cases h : P
  · rw [if_pos h, if_pos h]; exact h1 h
  · rw [if_neg h, if_neg h]; exact h2 h
theorem RO_cn {cn : ClassFile.Cond} {x y : VI} {a b : Int} {f : Bool → Option SI5} {g : Bool → Option St5} (hx : gi x a) (hy : gi y b) (h : ∀ t, RO F T (f t) (g t)) : RO F T ((cndI cn x y).bind f) (g (cnd cn a b)) := by
  cases e : cndI cn x y with
  | none => exact RO_n
  | some t =>
    rw [cndI_ok e hx hy]
    exact h t
theorem tl_p {α : Type} {k : Nat} (a b : Tr α k) : tl (tp a b) = a := rfl
theorem tr_p {α : Type} {k : Nat} (a b : Tr α k) : tr (tp a b) = b := rfl
theorem tg_s {α : Type} (k : Nat) (t : Tr α (k + 1)) (o : Nat) : tg (k + 1) t o = if o % 2 = 0 then tg k (tl t) (o / 2) else tg k (tr t) (o / 2) := rfl
theorem ts_s {α : Type} (k : Nat) (t : Tr α (k + 1)) (o : Nat) (f : α) : ts (k + 1) t o f = if o % 2 = 0 then tp (ts k (tl t) (o / 2) f) (tr t) else tp (tl t) (ts k (tr t) (o / 2) f) := rfl
theorem tg_ts {α : Type} : ∀ (k : Nat) (t : Tr α k) (o p : Nat) (f : α), tg k (ts k t o f) p = if p % 2 ^ k = o % 2 ^ k then f else tg k t p := by
  intro k
  induction k with
  | zero => intro t o p f; rw [if_pos (by omega)]; rfl
  | succ k ih =>
    intro t o p f
    have e1 : ∀ x : Nat, x % 2 ^ (k + 1) = x % 2 + 2 * (x / 2 % 2 ^ k) := fun x => by rw [Nat.pow_succ, Nat.mul_comm, Nat.mod_mul]
    rw [ts_s, tg_s, tg_s]
    by_cases ho : o % 2 = 0
    · rw [if_pos ho, tl_p, tr_p]
      by_cases hp : p % 2 = 0
      · rw [if_pos hp, if_pos hp, ih]
        by_cases h : p / 2 % 2 ^ k = o / 2 % 2 ^ k
        · rw [if_pos h, if_pos (by rw [e1, e1]; omega)]
        · rw [if_neg h, if_neg (by rw [e1, e1]; omega)]
      · rw [if_neg hp, if_neg hp, if_neg (by rw [e1, e1]; omega)]
    · rw [if_neg ho, tl_p, tr_p]
      by_cases hp : p % 2 = 0
      · rw [if_pos hp, if_pos hp, if_neg (by rw [e1, e1]; omega)]
      · rw [if_neg hp, if_neg hp, ih]
        by_cases h : p / 2 % 2 ^ k = o / 2 % 2 ^ k
        · rw [if_pos h, if_pos (by rw [e1, e1]; omega)]
        · rw [if_neg h, if_neg (by rw [e1, e1]; omega)]
theorem tg_tc {α : Type} (f : α) : ∀ (k o : Nat), tg k (tc f k) o = f := by
  intro k
  induction k with
  | zero => intro o; rfl
  | succ k ih =>
    intro o
    rw [tg_s]
    show (if o % 2 = 0 then tg k (tc f k) (o / 2) else tg k (tc f k) (o / 2)) = f
    rw [ih, ite_self]
theorem rd_ts {o p : Nat} {f : Nat → VI} {j : Nat} (ho : o < 256) (hp : p < 256) : rd (ts 8 M o f) p j = if p = o then f j else rd M p j := by
  unfold rd
  rw [tg_ts, Nat.mod_eq_of_lt (show o < 2 ^ 8 from ho), Nat.mod_eq_of_lt (show p < 2 ^ 8 from hp)]
  by_cases h : p = o
  · rw [if_pos h, if_pos h]
  · rw [if_neg h, if_neg h]
theorem lk_lt {o : Nat} {kd : Kd} (hF : FT F T) (hT : T.length ≤ 256) (h : lk F c o = some kd) : o < 256 := by
  unfold lk at h
  split at h
  · have := (List.getElem?_eq_some_iff.mp (hF _ _ h)).1
    omega
  · cases h
theorem gm_up {o i : Nat} {v : VI} {x : Int} {ko : Kd} (hF : FT F T) (hT : T.length ≤ 256) (ho : lk F c o = some ko) (h : gm F c M m) (hv : gi v x) : gm F c (upI M o i v) (nu_up m o i x) := by
  intro p kd hp j hj
  unfold upI nu_up
  rw [rd_ts (lk_lt hF hT ho) (lk_lt hF hT hp)]
  by_cases h1 : p = o
  · rw [if_pos h1, if_pos h1]
    by_cases h2 : j = i
    · rw [if_pos h2, if_pos h2]; exact hv
    · rw [if_neg h2, if_neg h2, ← h1]; exact h p kd hp j hj
  · rw [if_neg h1, if_neg h1]; exact h p kd hp j hj
theorem gm_new {f : Nat → VI} {g : Nat → Int} {ko : Kd} (hF : FT F T) (hT : T.length ≤ 256) (hc : F c = some ko) (h : gm F c M m) (hf : ∀ j, gi (f j) (g j)) : gm F (c + 1) (nwI M c f) (fun p j => if p = c then g j else m p j) := by
  intro p kd hp j hj
  have hc2 := (List.getElem?_eq_some_iff.mp (hF _ _ hc)).1
  unfold nwI
  rw [rd_ts (by omega) (lk_lt hF hT hp)]
  dsimp only
  by_cases h1 : p = c
  · rw [if_pos h1, if_pos h1]; exact hf j
  · rw [if_neg h1, if_neg h1]
    unfold lk at hp
    split at hp
    · exact h p kd (by unfold lk; rw [if_pos (by omega)]; exact hp) j hj
    · cases hp
theorem gm_cp {f g sp dp n : Nat} {kf kg : Kd} (hF : FT F T) (hT : T.length ≤ 256) (h : gm F c M m) (hf : lk F c f = some kf) (hg : lk F c g = some kg) (hn : sp + n ≤ kf.2) : gm F c (cpI M g dp n f sp) (fun p j => if p = g then (if dp ≤ j ∧ j < dp + n then m f (sp + (j - dp)) else m p j) else m p j) := by
  intro p kd hp j hj
  unfold cpI
  rw [rd_ts (lk_lt hF hT hg) (lk_lt hF hT hp)]
  dsimp only
  by_cases h1 : p = g
  · rw [if_pos h1, if_pos h1]
    by_cases h2 : dp ≤ j ∧ j < dp + n
    · rw [if_pos h2, if_pos h2]
      exact h f kf hf _ (by omega)
    · rw [if_neg h2, if_neg h2, ← h1]; exact h p kd hp j hj
  · rw [if_neg h1, if_neg h1]; exact h p kd hp j hj
theorem tk_len (h : c ≤ T.length) : (T.take c).length = c := by
  rw [List.length_take]; omega
theorem tk_push {kd : Kd} (h : T[c]? = some kd) : T.take c ++ [kd] = T.take (c + 1) := by
  rw [List.take_add_one, h]; rfl
theorem tk_lt {kd : Kd} (h : T[c]? = some kd) : c + 1 ≤ T.length := (List.getElem?_eq_some_iff.mp h).1
end RO
