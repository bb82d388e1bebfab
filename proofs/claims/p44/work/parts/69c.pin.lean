/-! exact walks: what two walks tell of one call, references that never change -/
theorem Rn_det {d d' j pc : Nat} {L S : List AV} {T : List Kd} {m : Mm} {r r' : AV × List Kd × Mm} (h1 : Rn d j pc L S T m r) (h2 : Rn d' j pc L S T m r') : r = r' := by
  have a := Rn_d1 (k := d') h1
  have b := Rn_d1 (k := d) h2
  rw [Nat.add_comm d' d] at b
  obtain ⟨n, hn⟩ := a
  obtain ⟨k, hk⟩ := b
  have e1 := run_up hn k
  have e2 := run_up hk n
  rw [Nat.add_comm k n] at e2
  exact Option.some.inj (e1.symm.trans e2)
section AND
variable {T : List Kd} {d d' j pc : Nat} {L S : List AV} {m : Mm}
theorem gx_and {Q1 Q2 : AV → Mm → Prop} (h1 : GX T d j pc L S m Q1) (h2 : GX T d' j pc L S m Q2) : GX T d j pc L S m (fun v m' => Q1 v m' ∧ Q2 v m') := by
  obtain ⟨v, m1, r1, q1⟩ := h1
  obtain ⟨v2, m2, r2, q2⟩ := h2
  have e := Rn_det r1 r2
  injection e with e1 e2
  injection e2 with e3 e4
  subst e1 e4
  exact ⟨v, m1, r1, q1, q2⟩
theorem gx_ai {P1 P2 : Int → Mm → Prop} (h1 : GX T d j pc L S m (RI P1)) (h2 : GX T d' j pc L S m (RI P2)) : GX T d j pc L S m (RI (fun x m' => P1 x m' ∧ P2 x m')) :=
  gx_imp (gx_and h1 h2) (fun v m' ⟨⟨x, e, p⟩, ⟨y, e', p'⟩⟩ => by
    subst e
    injection e' with _ e2
    subst e2
    exact ⟨_, rfl, p, p'⟩)
theorem gx_aL {P1 P2 : Int → Mm → Prop} (h1 : GX T d j pc L S m (RL P1)) (h2 : GX T d' j pc L S m (RL P2)) : GX T d j pc L S m (RL (fun x m' => P1 x m' ∧ P2 x m')) :=
  gx_imp (gx_and h1 h2) (fun v m' ⟨⟨x, e, p⟩, ⟨y, e', p'⟩⟩ => by
    subst e
    injection e' with _ e2
    subst e2
    exact ⟨_, rfl, p, p'⟩)
theorem gx_av {P1 P2 : Mm → Prop} (h1 : GX T d j pc L S m (RV P1)) (h2 : GX T d' j pc L S m (RV P2)) : GX T d j pc L S m (RV (fun m' => P1 m' ∧ P2 m')) :=
  gx_imp (gx_and h1 h2) (fun v m' ⟨⟨e, p⟩, ⟨_, p'⟩⟩ => ⟨e, p, p'⟩)
end AND
theorem rcv_w {k on : Nat} {o : Int} {As : List AV} {T : List Kd} {kd : Kd} (h1 : mS k = 1) (ho : o.toNat = on) (hk : T[on]? = some kd) (h2 : 0 < o) (h3 : kd.1 = mK k) (h4 : kd.1 < 100) : rcv k ((2, o) :: As) T = true := by
  subst ho
  exact rcv_v h1 hk h2 h3 h4
theorem gc_i {q : Q} {x lo hi : Int} (h : gc q x) (e : q = (0, lo, hi)) : lo ≤ x ∧ x ≤ hi := by
  subst e
  exact h
theorem gu_i {t i : Nat} {x lo hi : Int} (h : gc (cT t i) x) (e : cU t = some (0, lo, hi)) : lo ≤ x ∧ x ≤ hi := by
  rw [cU_ok e] at h
  exact h
theorem gu_l {t i : Nat} {x lo hi : Int} (h : gc (cT t i) x) (e : cU t = some (1, lo, hi)) : lo ≤ x ∧ x ≤ hi := by
  rw [cU_ok e] at h
  exact h
theorem b01 (P : Prop) [Decidable P] : (if P then (1 : Int) else 0) = 0 ∨ (if P then (1 : Int) else 0) = 1 := by
  by_cases h : P
  · rw [if_pos h]; exact Or.inr rfl
  · rw [if_neg h]; exact Or.inl rfl
def pinT : List (List Nat) := [[], [2, 4, 13, 22, 25, 28, 41, 54, 98, 142, 144, 145, 154, 155], [3], [], [0, 0, 0, 0, 0, 0, 0, 0, 0, 0, 5, 6, 7, 8, 9, 10, 11, 12], [], [], [], [], [], [], [], [], [0, 0, 0, 0, 0, 0, 0, 0, 0, 0, 14, 15, 16, 17, 18, 19, 20, 21], [], [], [], [], [], [], [], [], [23, 24], [], [], [26, 27], [], [], [29, 32, 33, 34, 35, 36, 37, 38, 39, 40], [0, 0, 0, 0, 0, 0, 0, 0, 30, 31], [], [], [], [], [], [], [], [], [], [], [], [42, 45, 46, 47, 48, 49, 50, 51, 52, 53], [0, 0, 0, 0, 0, 0, 0, 0, 43, 44], [], [], [], [], [], [], [], [], [], [], [], [55, 56, 57, 58], [59, 62, 65, 68, 71, 74, 77, 80, 83, 86, 89, 92, 95], [], [], [], [0, 0, 0, 0, 0, 0, 0, 0, 60, 61], [], [], [0, 0, 0, 0, 0, 0, 0, 0, 63, 64], [], [], [0, 0, 0, 0, 0, 0, 0, 0, 66, 67], [], [], [0, 0, 0, 0, 0, 0, 0, 0, 69, 70], [], [], [0, 0, 0, 0, 0, 0, 0, 0, 72, 73], [], [], [0, 0, 0, 0, 0, 0, 0, 0, 75, 76], [], [], [0, 0, 0, 0, 0, 0, 0, 0, 78, 79], [], [], [0, 0, 0, 0, 0, 0, 0, 0, 81, 82], [], [], [0, 0, 0, 0, 0, 0, 0, 0, 84, 85], [], [], [0, 0, 0, 0, 0, 0, 0, 0, 87, 88], [], [], [0, 0, 0, 0, 0, 0, 0, 0, 90, 91], [], [], [0, 0, 0, 0, 0, 0, 0, 0, 93, 94], [], [], [0, 0, 0, 0, 0, 0, 0, 0, 96, 97], [], [], [99, 100, 101, 102], [103, 106, 109, 112, 115, 118, 121, 124, 127, 130, 133, 136, 139], [], [], [], [0, 0, 0, 0, 0, 0, 0, 0, 104, 105], [], [], [0, 0, 0, 0, 0, 0, 0, 0, 107, 108], [], [], [0, 0, 0, 0, 0, 0, 0, 0, 110, 111], [], [], [0, 0, 0, 0, 0, 0, 0, 0, 113, 114], [], [], [0, 0, 0, 0, 0, 0, 0, 0, 116, 117], [], [], [0, 0, 0, 0, 0, 0, 0, 0, 119, 120], [], [], [0, 0, 0, 0, 0, 0, 0, 0, 122, 123], [], [], [0, 0, 0, 0, 0, 0, 0, 0, 125, 126], [], [], [0, 0, 0, 0, 0, 0, 0, 0, 128, 129], [], [], [0, 0, 0, 0, 0, 0, 0, 0, 131, 132], [], [], [0, 0, 0, 0, 0, 0, 0, 0, 134, 135], [], [], [0, 0, 0, 0, 0, 0, 0, 0, 137, 138], [], [], [0, 0, 0, 0, 0, 0, 0, 0, 140, 141], [], [], [0, 0, 0, 143], [], [], [146, 148, 150, 152], [147], [], [149], [], [151], [], [153], [], [156, 168, 180], [165, 177, 189], [0, 0, 0, 0, 0, 0, 0, 0, 0, 0, 157, 158, 159, 160, 161, 162, 163, 164], [], [], [], [], [], [], [], [], [166, 167], [], [], [0, 0, 0, 0, 0, 0, 0, 0, 0, 0, 169, 170, 171, 172, 173, 174, 175, 176], [], [], [], [], [], [], [], [], [178, 179], [], [], [0, 0, 0, 0, 0, 0, 0, 0, 0, 0, 181, 182, 183, 184, 185, 186, 187, 188], [], [], [], [], [], [], [], [], [190, 191], [], [], [0, 193, 194, 195, 196, 0, 197, 0, 0, 0, 0, 0, 0, 0, 198, 199, 200, 201, 202, 203, 204, 0, 0, 0, 0, 0, 0, 0, 0, 205, 206, 0, 207, 208, 0, 0, 0, 209, 210, 211, 212], [], [], [], [], [], [], [], [], [], [], [], [], [], [], [], [], [], [], [], []]
def pinF (o i : Nat) : Nat := (pinT.getD o []).getD i 0
def pinC : List Nat := [1000, 1001, 1002, 1003, 1004, 1005, 1006, 1007, 1008, 1009, 1010, 1011, 1012, 1013, 2000, 4010, 4011, 4012, 4013, 4014, 4015, 4016, 4017, 13010, 13011, 13012, 13013, 13014, 13015, 13016, 13017, 22000, 22001, 25000, 25001, 28000, 28001, 28002, 28003, 28004, 28005, 28006, 28007, 28008, 28009, 29008, 29009, 41000, 41001, 41002, 41003, 41004, 41005, 41006, 41007, 41008, 41009, 42008, 42009, 54000, 54001, 54002, 54003, 55999, 59008, 59009, 62000, 62001, 62002, 62003, 63999, 67008, 67009, 70003, 73999, 74000, 76999, 77999, 78010, 78011, 78012, 78013, 78014, 78015, 78016, 78017, 87000, 87001, 90001, 90002, 90003, 90004, 90006, 90014, 90015, 90016, 90017, 90018, 90019, 90020, 90029, 90030, 90032, 90033, 90037, 90038, 90039, 90040]
/-- references are as they were made -/
def PinR (m : Mm) : Prop := ∀ o i : Nat, ¬ pinF o i = 0 → m o i = (pinF o i : Int)
theorem pin_at {m : Mm} {o i : Nat} (h : PinR m) {t : Nat} (hq : pinF o i = t) (ht : ¬ t = 0) : m o i = (t : Int) := by
  subst hq
  exact h o i ht
set_option maxRecDepth 100000 in
theorem pin_c : ∀ o : Nat, o < 213 → ∀ i : Nat, i < 41 → pinF o i = 0 ∨ pinC.contains (tyO o * 1000 + (if (tyK (tyO o)).1 < 100 then i else 999)) = true := by decide +kernel
theorem pin_s : ∀ o : Nat, o < 213 → (pinT.getD o []).length ≤ 41 := by decide +kernel
theorem pin_d {o i : Nat} (h : ¬ pinF o i = 0) : o < 213 ∧ i < 41 := by
  by_cases ho : o < 213
  · refine ⟨ho, ?_⟩
    have h1 := pin_s o ho
    by_cases hi : i < 41
    · exact hi
    · exfalso
      apply h
      unfold pinF
      rw [List.getD_eq_getElem?_getD, List.getElem?_eq_none (by omega)]
      rfl
  · exfalso
    apply h
    unfold pinF
    have e : pinT.getD o [] = [] := by
      rw [List.getD_eq_getElem?_getD, List.getElem?_eq_none (show pinT.length ≤ o by show 213 ≤ o; omega)]
      rfl
    rw [e]
    rfl
theorem PinR_fr {W : List Nat} {m m' : Mm} (h : Fr W m m') (hw : pinC.all (fun c => !W.contains c) = true) (p : PinR m) : PinR m' := by
  intro o i hq
  have hd := pin_d hq
  have hc := (pin_c o hd.1 i hd.2).resolve_left hq
  rw [h o i ?_]
  · exact p o i hq
  · have := List.all_eq_true.mp hw _ (List.contains_iff_mem.mp hc)
    simpa using this
theorem PinR_up {m : Mm} {o i : Nat} {x : Int} (p : PinR m) (h : pinF o i = 0) : PinR (nu_up m o i x) := by
  intro o2 i2 hq
  by_cases e : o2 = o
  · subst e
    by_cases e2 : i2 = i
    · subst e2; exact absurd h hq
    · rw [nu_ne e2]; exact p o2 i2 hq
  · rw [nu_no e]; exact p o2 i2 hq
set_option maxRecDepth 100000 in
theorem pin_b : ∀ o : Nat, o < 213 → ∀ i : Nat, i < 41 → pinF o i = 0 ∨ (0 < o ∧ i < (tyK (tyO o)).2) := by decide +kernel
theorem ty_1 {T : List Kd} (hT : TT T) : T[1]? = some (9, 16) := hT 1 (by decide) (by decide)
theorem ty_2 {T : List Kd} (hT : TT T) : T[2]? = some (8, 7) := hT 2 (by decide) (by decide)
theorem ty_3 {T : List Kd} (hT : TT T) : T[3]? = some (100, 800) := hT 3 (by decide) (by decide)
theorem ty_4 {T : List Kd} (hT : TT T) : T[4]? = some (3, 18) := hT 4 (by decide) (by decide)
theorem ty_5 {T : List Kd} (hT : TT T) : T[5]? = some (100, 5) := hT 5 (by decide) (by decide)
theorem ty_6 {T : List Kd} (hT : TT T) : T[6]? = some (100, 5) := hT 6 (by decide) (by decide)
theorem ty_7 {T : List Kd} (hT : TT T) : T[7]? = some (100, 3) := hT 7 (by decide) (by decide)
theorem ty_8 {T : List Kd} (hT : TT T) : T[8]? = some (100, 3) := hT 8 (by decide) (by decide)
theorem ty_9 {T : List Kd} (hT : TT T) : T[9]? = some (100, 5) := hT 9 (by decide) (by decide)
theorem ty_10 {T : List Kd} (hT : TT T) : T[10]? = some (100, 5) := hT 10 (by decide) (by decide)
theorem ty_11 {T : List Kd} (hT : TT T) : T[11]? = some (100, 7) := hT 11 (by decide) (by decide)
theorem ty_12 {T : List Kd} (hT : TT T) : T[12]? = some (100, 49) := hT 12 (by decide) (by decide)
theorem ty_13 {T : List Kd} (hT : TT T) : T[13]? = some (3, 18) := hT 13 (by decide) (by decide)
theorem ty_14 {T : List Kd} (hT : TT T) : T[14]? = some (100, 5) := hT 14 (by decide) (by decide)
theorem ty_15 {T : List Kd} (hT : TT T) : T[15]? = some (100, 5) := hT 15 (by decide) (by decide)
theorem ty_16 {T : List Kd} (hT : TT T) : T[16]? = some (100, 3) := hT 16 (by decide) (by decide)
theorem ty_17 {T : List Kd} (hT : TT T) : T[17]? = some (100, 3) := hT 17 (by decide) (by decide)
theorem ty_18 {T : List Kd} (hT : TT T) : T[18]? = some (100, 5) := hT 18 (by decide) (by decide)
theorem ty_19 {T : List Kd} (hT : TT T) : T[19]? = some (100, 5) := hT 19 (by decide) (by decide)
theorem ty_20 {T : List Kd} (hT : TT T) : T[20]? = some (100, 7) := hT 20 (by decide) (by decide)
theorem ty_21 {T : List Kd} (hT : TT T) : T[21]? = some (100, 49) := hT 21 (by decide) (by decide)
theorem ty_22 {T : List Kd} (hT : TT T) : T[22]? = some (0, 3) := hT 22 (by decide) (by decide)
theorem ty_23 {T : List Kd} (hT : TT T) : T[23]? = some (100, 12) := hT 23 (by decide) (by decide)
theorem ty_24 {T : List Kd} (hT : TT T) : T[24]? = some (100, 12) := hT 24 (by decide) (by decide)
theorem ty_25 {T : List Kd} (hT : TT T) : T[25]? = some (0, 3) := hT 25 (by decide) (by decide)
theorem ty_26 {T : List Kd} (hT : TT T) : T[26]? = some (100, 12) := hT 26 (by decide) (by decide)
theorem ty_27 {T : List Kd} (hT : TT T) : T[27]? = some (100, 12) := hT 27 (by decide) (by decide)
theorem ty_28 {T : List Kd} (hT : TT T) : T[28]? = some (7, 14) := hT 28 (by decide) (by decide)
theorem ty_29 {T : List Kd} (hT : TT T) : T[29]? = some (4, 10) := hT 29 (by decide) (by decide)
theorem ty_30 {T : List Kd} (hT : TT T) : T[30]? = some (100, 5) := hT 30 (by decide) (by decide)
theorem ty_31 {T : List Kd} (hT : TT T) : T[31]? = some (100, 5) := hT 31 (by decide) (by decide)
theorem ty_32 {T : List Kd} (hT : TT T) : T[32]? = some (100, 13) := hT 32 (by decide) (by decide)
theorem ty_33 {T : List Kd} (hT : TT T) : T[33]? = some (100, 13) := hT 33 (by decide) (by decide)
theorem ty_34 {T : List Kd} (hT : TT T) : T[34]? = some (100, 13) := hT 34 (by decide) (by decide)
theorem ty_35 {T : List Kd} (hT : TT T) : T[35]? = some (100, 65) := hT 35 (by decide) (by decide)
theorem ty_36 {T : List Kd} (hT : TT T) : T[36]? = some (100, 65) := hT 36 (by decide) (by decide)
theorem ty_37 {T : List Kd} (hT : TT T) : T[37]? = some (100, 12) := hT 37 (by decide) (by decide)
theorem ty_38 {T : List Kd} (hT : TT T) : T[38]? = some (100, 12) := hT 38 (by decide) (by decide)
theorem ty_39 {T : List Kd} (hT : TT T) : T[39]? = some (100, 12) := hT 39 (by decide) (by decide)
theorem ty_40 {T : List Kd} (hT : TT T) : T[40]? = some (100, 5) := hT 40 (by decide) (by decide)
theorem ty_41 {T : List Kd} (hT : TT T) : T[41]? = some (7, 14) := hT 41 (by decide) (by decide)
theorem ty_42 {T : List Kd} (hT : TT T) : T[42]? = some (4, 10) := hT 42 (by decide) (by decide)
theorem ty_43 {T : List Kd} (hT : TT T) : T[43]? = some (100, 5) := hT 43 (by decide) (by decide)
theorem ty_44 {T : List Kd} (hT : TT T) : T[44]? = some (100, 5) := hT 44 (by decide) (by decide)
theorem ty_45 {T : List Kd} (hT : TT T) : T[45]? = some (100, 13) := hT 45 (by decide) (by decide)
theorem ty_46 {T : List Kd} (hT : TT T) : T[46]? = some (100, 13) := hT 46 (by decide) (by decide)
theorem ty_47 {T : List Kd} (hT : TT T) : T[47]? = some (100, 13) := hT 47 (by decide) (by decide)
theorem ty_48 {T : List Kd} (hT : TT T) : T[48]? = some (100, 65) := hT 48 (by decide) (by decide)
theorem ty_49 {T : List Kd} (hT : TT T) : T[49]? = some (100, 65) := hT 49 (by decide) (by decide)
theorem ty_50 {T : List Kd} (hT : TT T) : T[50]? = some (100, 12) := hT 50 (by decide) (by decide)
theorem ty_51 {T : List Kd} (hT : TT T) : T[51]? = some (100, 12) := hT 51 (by decide) (by decide)
theorem ty_52 {T : List Kd} (hT : TT T) : T[52]? = some (100, 12) := hT 52 (by decide) (by decide)
theorem ty_53 {T : List Kd} (hT : TT T) : T[53]? = some (100, 5) := hT 53 (by decide) (by decide)
theorem ty_54 {T : List Kd} (hT : TT T) : T[54]? = some (2, 7) := hT 54 (by decide) (by decide)
theorem ty_55 {T : List Kd} (hT : TT T) : T[55]? = some (107, 13) := hT 55 (by decide) (by decide)
theorem ty_56 {T : List Kd} (hT : TT T) : T[56]? = some (100, 12) := hT 56 (by decide) (by decide)
theorem ty_57 {T : List Kd} (hT : TT T) : T[57]? = some (100, 12) := hT 57 (by decide) (by decide)
theorem ty_58 {T : List Kd} (hT : TT T) : T[58]? = some (100, 7) := hT 58 (by decide) (by decide)
theorem ty_59 {T : List Kd} (hT : TT T) : T[59]? = some (4, 10) := hT 59 (by decide) (by decide)
theorem ty_60 {T : List Kd} (hT : TT T) : T[60]? = some (100, 5) := hT 60 (by decide) (by decide)
theorem ty_61 {T : List Kd} (hT : TT T) : T[61]? = some (100, 5) := hT 61 (by decide) (by decide)
theorem ty_62 {T : List Kd} (hT : TT T) : T[62]? = some (4, 10) := hT 62 (by decide) (by decide)
theorem ty_63 {T : List Kd} (hT : TT T) : T[63]? = some (100, 5) := hT 63 (by decide) (by decide)
theorem ty_64 {T : List Kd} (hT : TT T) : T[64]? = some (100, 5) := hT 64 (by decide) (by decide)
theorem ty_65 {T : List Kd} (hT : TT T) : T[65]? = some (4, 10) := hT 65 (by decide) (by decide)
theorem ty_66 {T : List Kd} (hT : TT T) : T[66]? = some (100, 5) := hT 66 (by decide) (by decide)
theorem ty_67 {T : List Kd} (hT : TT T) : T[67]? = some (100, 5) := hT 67 (by decide) (by decide)
theorem ty_68 {T : List Kd} (hT : TT T) : T[68]? = some (4, 10) := hT 68 (by decide) (by decide)
theorem ty_69 {T : List Kd} (hT : TT T) : T[69]? = some (100, 5) := hT 69 (by decide) (by decide)
theorem ty_70 {T : List Kd} (hT : TT T) : T[70]? = some (100, 5) := hT 70 (by decide) (by decide)
theorem ty_71 {T : List Kd} (hT : TT T) : T[71]? = some (4, 10) := hT 71 (by decide) (by decide)
theorem ty_72 {T : List Kd} (hT : TT T) : T[72]? = some (100, 5) := hT 72 (by decide) (by decide)
theorem ty_73 {T : List Kd} (hT : TT T) : T[73]? = some (100, 5) := hT 73 (by decide) (by decide)
theorem ty_74 {T : List Kd} (hT : TT T) : T[74]? = some (4, 10) := hT 74 (by decide) (by decide)
theorem ty_75 {T : List Kd} (hT : TT T) : T[75]? = some (100, 5) := hT 75 (by decide) (by decide)
theorem ty_76 {T : List Kd} (hT : TT T) : T[76]? = some (100, 5) := hT 76 (by decide) (by decide)
theorem ty_77 {T : List Kd} (hT : TT T) : T[77]? = some (4, 10) := hT 77 (by decide) (by decide)
theorem ty_78 {T : List Kd} (hT : TT T) : T[78]? = some (100, 5) := hT 78 (by decide) (by decide)
theorem ty_79 {T : List Kd} (hT : TT T) : T[79]? = some (100, 5) := hT 79 (by decide) (by decide)
theorem ty_80 {T : List Kd} (hT : TT T) : T[80]? = some (4, 10) := hT 80 (by decide) (by decide)
theorem ty_81 {T : List Kd} (hT : TT T) : T[81]? = some (100, 5) := hT 81 (by decide) (by decide)
theorem ty_82 {T : List Kd} (hT : TT T) : T[82]? = some (100, 5) := hT 82 (by decide) (by decide)
theorem ty_83 {T : List Kd} (hT : TT T) : T[83]? = some (4, 10) := hT 83 (by decide) (by decide)
theorem ty_84 {T : List Kd} (hT : TT T) : T[84]? = some (100, 5) := hT 84 (by decide) (by decide)
theorem ty_85 {T : List Kd} (hT : TT T) : T[85]? = some (100, 5) := hT 85 (by decide) (by decide)
theorem ty_86 {T : List Kd} (hT : TT T) : T[86]? = some (4, 10) := hT 86 (by decide) (by decide)
theorem ty_87 {T : List Kd} (hT : TT T) : T[87]? = some (100, 5) := hT 87 (by decide) (by decide)
theorem ty_88 {T : List Kd} (hT : TT T) : T[88]? = some (100, 5) := hT 88 (by decide) (by decide)
theorem ty_89 {T : List Kd} (hT : TT T) : T[89]? = some (4, 10) := hT 89 (by decide) (by decide)
theorem ty_90 {T : List Kd} (hT : TT T) : T[90]? = some (100, 5) := hT 90 (by decide) (by decide)
theorem ty_91 {T : List Kd} (hT : TT T) : T[91]? = some (100, 5) := hT 91 (by decide) (by decide)
theorem ty_92 {T : List Kd} (hT : TT T) : T[92]? = some (4, 10) := hT 92 (by decide) (by decide)
theorem ty_93 {T : List Kd} (hT : TT T) : T[93]? = some (100, 5) := hT 93 (by decide) (by decide)
theorem ty_94 {T : List Kd} (hT : TT T) : T[94]? = some (100, 5) := hT 94 (by decide) (by decide)
theorem ty_95 {T : List Kd} (hT : TT T) : T[95]? = some (4, 10) := hT 95 (by decide) (by decide)
theorem ty_96 {T : List Kd} (hT : TT T) : T[96]? = some (100, 5) := hT 96 (by decide) (by decide)
theorem ty_97 {T : List Kd} (hT : TT T) : T[97]? = some (100, 5) := hT 97 (by decide) (by decide)
theorem ty_98 {T : List Kd} (hT : TT T) : T[98]? = some (2, 7) := hT 98 (by decide) (by decide)
theorem ty_99 {T : List Kd} (hT : TT T) : T[99]? = some (107, 13) := hT 99 (by decide) (by decide)
theorem ty_100 {T : List Kd} (hT : TT T) : T[100]? = some (100, 12) := hT 100 (by decide) (by decide)
theorem ty_101 {T : List Kd} (hT : TT T) : T[101]? = some (100, 12) := hT 101 (by decide) (by decide)
theorem ty_102 {T : List Kd} (hT : TT T) : T[102]? = some (100, 7) := hT 102 (by decide) (by decide)
theorem ty_103 {T : List Kd} (hT : TT T) : T[103]? = some (4, 10) := hT 103 (by decide) (by decide)
theorem ty_104 {T : List Kd} (hT : TT T) : T[104]? = some (100, 5) := hT 104 (by decide) (by decide)
theorem ty_105 {T : List Kd} (hT : TT T) : T[105]? = some (100, 5) := hT 105 (by decide) (by decide)
theorem ty_106 {T : List Kd} (hT : TT T) : T[106]? = some (4, 10) := hT 106 (by decide) (by decide)
theorem ty_107 {T : List Kd} (hT : TT T) : T[107]? = some (100, 5) := hT 107 (by decide) (by decide)
theorem ty_108 {T : List Kd} (hT : TT T) : T[108]? = some (100, 5) := hT 108 (by decide) (by decide)
theorem ty_109 {T : List Kd} (hT : TT T) : T[109]? = some (4, 10) := hT 109 (by decide) (by decide)
theorem ty_110 {T : List Kd} (hT : TT T) : T[110]? = some (100, 5) := hT 110 (by decide) (by decide)
theorem ty_111 {T : List Kd} (hT : TT T) : T[111]? = some (100, 5) := hT 111 (by decide) (by decide)
theorem ty_112 {T : List Kd} (hT : TT T) : T[112]? = some (4, 10) := hT 112 (by decide) (by decide)
theorem ty_113 {T : List Kd} (hT : TT T) : T[113]? = some (100, 5) := hT 113 (by decide) (by decide)
theorem ty_114 {T : List Kd} (hT : TT T) : T[114]? = some (100, 5) := hT 114 (by decide) (by decide)
theorem ty_115 {T : List Kd} (hT : TT T) : T[115]? = some (4, 10) := hT 115 (by decide) (by decide)
theorem ty_116 {T : List Kd} (hT : TT T) : T[116]? = some (100, 5) := hT 116 (by decide) (by decide)
theorem ty_117 {T : List Kd} (hT : TT T) : T[117]? = some (100, 5) := hT 117 (by decide) (by decide)
theorem ty_118 {T : List Kd} (hT : TT T) : T[118]? = some (4, 10) := hT 118 (by decide) (by decide)
theorem ty_119 {T : List Kd} (hT : TT T) : T[119]? = some (100, 5) := hT 119 (by decide) (by decide)
theorem ty_120 {T : List Kd} (hT : TT T) : T[120]? = some (100, 5) := hT 120 (by decide) (by decide)
theorem ty_121 {T : List Kd} (hT : TT T) : T[121]? = some (4, 10) := hT 121 (by decide) (by decide)
theorem ty_122 {T : List Kd} (hT : TT T) : T[122]? = some (100, 5) := hT 122 (by decide) (by decide)
theorem ty_123 {T : List Kd} (hT : TT T) : T[123]? = some (100, 5) := hT 123 (by decide) (by decide)
theorem ty_124 {T : List Kd} (hT : TT T) : T[124]? = some (4, 10) := hT 124 (by decide) (by decide)
theorem ty_125 {T : List Kd} (hT : TT T) : T[125]? = some (100, 5) := hT 125 (by decide) (by decide)
theorem ty_126 {T : List Kd} (hT : TT T) : T[126]? = some (100, 5) := hT 126 (by decide) (by decide)
theorem ty_127 {T : List Kd} (hT : TT T) : T[127]? = some (4, 10) := hT 127 (by decide) (by decide)
theorem ty_128 {T : List Kd} (hT : TT T) : T[128]? = some (100, 5) := hT 128 (by decide) (by decide)
theorem ty_129 {T : List Kd} (hT : TT T) : T[129]? = some (100, 5) := hT 129 (by decide) (by decide)
theorem ty_130 {T : List Kd} (hT : TT T) : T[130]? = some (4, 10) := hT 130 (by decide) (by decide)
theorem ty_131 {T : List Kd} (hT : TT T) : T[131]? = some (100, 5) := hT 131 (by decide) (by decide)
theorem ty_132 {T : List Kd} (hT : TT T) : T[132]? = some (100, 5) := hT 132 (by decide) (by decide)
theorem ty_133 {T : List Kd} (hT : TT T) : T[133]? = some (4, 10) := hT 133 (by decide) (by decide)
theorem ty_134 {T : List Kd} (hT : TT T) : T[134]? = some (100, 5) := hT 134 (by decide) (by decide)
theorem ty_135 {T : List Kd} (hT : TT T) : T[135]? = some (100, 5) := hT 135 (by decide) (by decide)
theorem ty_136 {T : List Kd} (hT : TT T) : T[136]? = some (4, 10) := hT 136 (by decide) (by decide)
theorem ty_137 {T : List Kd} (hT : TT T) : T[137]? = some (100, 5) := hT 137 (by decide) (by decide)
theorem ty_138 {T : List Kd} (hT : TT T) : T[138]? = some (100, 5) := hT 138 (by decide) (by decide)
theorem ty_139 {T : List Kd} (hT : TT T) : T[139]? = some (4, 10) := hT 139 (by decide) (by decide)
theorem ty_140 {T : List Kd} (hT : TT T) : T[140]? = some (100, 5) := hT 140 (by decide) (by decide)
theorem ty_141 {T : List Kd} (hT : TT T) : T[141]? = some (100, 5) := hT 141 (by decide) (by decide)
theorem ty_142 {T : List Kd} (hT : TT T) : T[142]? = some (5, 4) := hT 142 (by decide) (by decide)
theorem ty_143 {T : List Kd} (hT : TT T) : T[143]? = some (100, 50) := hT 143 (by decide) (by decide)
theorem ty_144 {T : List Kd} (hT : TT T) : T[144]? = some (1, 3) := hT 144 (by decide) (by decide)
theorem ty_145 {T : List Kd} (hT : TT T) : T[145]? = some (104, 4) := hT 145 (by decide) (by decide)
theorem ty_146 {T : List Kd} (hT : TT T) : T[146]? = some (6, 3) := hT 146 (by decide) (by decide)
theorem ty_147 {T : List Kd} (hT : TT T) : T[147]? = some (101, 60) := hT 147 (by decide) (by decide)
theorem ty_148 {T : List Kd} (hT : TT T) : T[148]? = some (6, 3) := hT 148 (by decide) (by decide)
theorem ty_149 {T : List Kd} (hT : TT T) : T[149]? = some (101, 60) := hT 149 (by decide) (by decide)
theorem ty_150 {T : List Kd} (hT : TT T) : T[150]? = some (6, 3) := hT 150 (by decide) (by decide)
theorem ty_151 {T : List Kd} (hT : TT T) : T[151]? = some (101, 60) := hT 151 (by decide) (by decide)
theorem ty_152 {T : List Kd} (hT : TT T) : T[152]? = some (6, 3) := hT 152 (by decide) (by decide)
theorem ty_153 {T : List Kd} (hT : TT T) : T[153]? = some (101, 60) := hT 153 (by decide) (by decide)
theorem ty_154 {T : List Kd} (hT : TT T) : T[154]? = some (105, 3) := hT 154 (by decide) (by decide)
theorem ty_155 {T : List Kd} (hT : TT T) : T[155]? = some (106, 3) := hT 155 (by decide) (by decide)
theorem ty_156 {T : List Kd} (hT : TT T) : T[156]? = some (3, 18) := hT 156 (by decide) (by decide)
theorem ty_157 {T : List Kd} (hT : TT T) : T[157]? = some (100, 5) := hT 157 (by decide) (by decide)
theorem ty_158 {T : List Kd} (hT : TT T) : T[158]? = some (100, 5) := hT 158 (by decide) (by decide)
theorem ty_159 {T : List Kd} (hT : TT T) : T[159]? = some (100, 3) := hT 159 (by decide) (by decide)
theorem ty_160 {T : List Kd} (hT : TT T) : T[160]? = some (100, 3) := hT 160 (by decide) (by decide)
theorem ty_161 {T : List Kd} (hT : TT T) : T[161]? = some (100, 5) := hT 161 (by decide) (by decide)
theorem ty_162 {T : List Kd} (hT : TT T) : T[162]? = some (100, 5) := hT 162 (by decide) (by decide)
theorem ty_163 {T : List Kd} (hT : TT T) : T[163]? = some (100, 7) := hT 163 (by decide) (by decide)
theorem ty_164 {T : List Kd} (hT : TT T) : T[164]? = some (100, 49) := hT 164 (by decide) (by decide)
theorem ty_165 {T : List Kd} (hT : TT T) : T[165]? = some (0, 3) := hT 165 (by decide) (by decide)
theorem ty_166 {T : List Kd} (hT : TT T) : T[166]? = some (100, 12) := hT 166 (by decide) (by decide)
theorem ty_167 {T : List Kd} (hT : TT T) : T[167]? = some (100, 12) := hT 167 (by decide) (by decide)
theorem ty_168 {T : List Kd} (hT : TT T) : T[168]? = some (3, 18) := hT 168 (by decide) (by decide)
theorem ty_169 {T : List Kd} (hT : TT T) : T[169]? = some (100, 5) := hT 169 (by decide) (by decide)
theorem ty_170 {T : List Kd} (hT : TT T) : T[170]? = some (100, 5) := hT 170 (by decide) (by decide)
theorem ty_171 {T : List Kd} (hT : TT T) : T[171]? = some (100, 3) := hT 171 (by decide) (by decide)
theorem ty_172 {T : List Kd} (hT : TT T) : T[172]? = some (100, 3) := hT 172 (by decide) (by decide)
theorem ty_173 {T : List Kd} (hT : TT T) : T[173]? = some (100, 5) := hT 173 (by decide) (by decide)
theorem ty_174 {T : List Kd} (hT : TT T) : T[174]? = some (100, 5) := hT 174 (by decide) (by decide)
theorem ty_175 {T : List Kd} (hT : TT T) : T[175]? = some (100, 7) := hT 175 (by decide) (by decide)
theorem ty_176 {T : List Kd} (hT : TT T) : T[176]? = some (100, 49) := hT 176 (by decide) (by decide)
theorem ty_177 {T : List Kd} (hT : TT T) : T[177]? = some (0, 3) := hT 177 (by decide) (by decide)
theorem ty_178 {T : List Kd} (hT : TT T) : T[178]? = some (100, 12) := hT 178 (by decide) (by decide)
theorem ty_179 {T : List Kd} (hT : TT T) : T[179]? = some (100, 12) := hT 179 (by decide) (by decide)
theorem ty_180 {T : List Kd} (hT : TT T) : T[180]? = some (3, 18) := hT 180 (by decide) (by decide)
theorem ty_181 {T : List Kd} (hT : TT T) : T[181]? = some (100, 5) := hT 181 (by decide) (by decide)
theorem ty_182 {T : List Kd} (hT : TT T) : T[182]? = some (100, 5) := hT 182 (by decide) (by decide)
theorem ty_183 {T : List Kd} (hT : TT T) : T[183]? = some (100, 3) := hT 183 (by decide) (by decide)
theorem ty_184 {T : List Kd} (hT : TT T) : T[184]? = some (100, 3) := hT 184 (by decide) (by decide)
theorem ty_185 {T : List Kd} (hT : TT T) : T[185]? = some (100, 5) := hT 185 (by decide) (by decide)
theorem ty_186 {T : List Kd} (hT : TT T) : T[186]? = some (100, 5) := hT 186 (by decide) (by decide)
theorem ty_187 {T : List Kd} (hT : TT T) : T[187]? = some (100, 7) := hT 187 (by decide) (by decide)
theorem ty_188 {T : List Kd} (hT : TT T) : T[188]? = some (100, 49) := hT 188 (by decide) (by decide)
theorem ty_189 {T : List Kd} (hT : TT T) : T[189]? = some (0, 3) := hT 189 (by decide) (by decide)
theorem ty_190 {T : List Kd} (hT : TT T) : T[190]? = some (100, 12) := hT 190 (by decide) (by decide)
theorem ty_191 {T : List Kd} (hT : TT T) : T[191]? = some (100, 12) := hT 191 (by decide) (by decide)
theorem ty_192 {T : List Kd} (hT : TT T) : T[192]? = some (10, 41) := hT 192 (by decide) (by decide)
theorem ty_193 {T : List Kd} (hT : TT T) : T[193]? = some (100, 69) := hT 193 (by decide) (by decide)
theorem ty_194 {T : List Kd} (hT : TT T) : T[194]? = some (100, 207) := hT 194 (by decide) (by decide)
theorem ty_195 {T : List Kd} (hT : TT T) : T[195]? = some (103, 3) := hT 195 (by decide) (by decide)
theorem ty_196 {T : List Kd} (hT : TT T) : T[196]? = some (102, 800) := hT 196 (by decide) (by decide)
theorem ty_197 {T : List Kd} (hT : TT T) : T[197]? = some (100, 5) := hT 197 (by decide) (by decide)
theorem ty_198 {T : List Kd} (hT : TT T) : T[198]? = some (100, 69) := hT 198 (by decide) (by decide)
theorem ty_199 {T : List Kd} (hT : TT T) : T[199]? = some (100, 49) := hT 199 (by decide) (by decide)
theorem ty_200 {T : List Kd} (hT : TT T) : T[200]? = some (100, 208) := hT 200 (by decide) (by decide)
theorem ty_201 {T : List Kd} (hT : TT T) : T[201]? = some (100, 12) := hT 201 (by decide) (by decide)
theorem ty_202 {T : List Kd} (hT : TT T) : T[202]? = some (100, 12) := hT 202 (by decide) (by decide)
theorem ty_203 {T : List Kd} (hT : TT T) : T[203]? = some (100, 12) := hT 203 (by decide) (by decide)
theorem ty_204 {T : List Kd} (hT : TT T) : T[204]? = some (100, 5) := hT 204 (by decide) (by decide)
theorem ty_205 {T : List Kd} (hT : TT T) : T[205]? = some (100, 12) := hT 205 (by decide) (by decide)
theorem ty_206 {T : List Kd} (hT : TT T) : T[206]? = some (100, 12) := hT 206 (by decide) (by decide)
theorem ty_207 {T : List Kd} (hT : TT T) : T[207]? = some (100, 91) := hT 207 (by decide) (by decide)
theorem ty_208 {T : List Kd} (hT : TT T) : T[208]? = some (100, 455) := hT 208 (by decide) (by decide)
theorem ty_209 {T : List Kd} (hT : TT T) : T[209]? = some (100, 4) := hT 209 (by decide) (by decide)
theorem ty_210 {T : List Kd} (hT : TT T) : T[210]? = some (100, 4) := hT 210 (by decide) (by decide)
theorem ty_211 {T : List Kd} (hT : TT T) : T[211]? = some (101, 240) := hT 211 (by decide) (by decide)
theorem ty_212 {T : List Kd} (hT : TT T) : T[212]? = some (101, 60) := hT 212 (by decide) (by decide)
/-- shapes of sl -/
def SlT (T : List Kd) (o : Nat) : Prop := 0 < o ∧ T[o]? = some (6, 3) ∧ T[o + 1]? = some (101, 60)
theorem tsl_0 {T : List Kd} {o : Nat} (h : SlT T o) : T[o]? = some (6, 3) := h.2.1
theorem tsl_1 {T : List Kd} {o : Nat} (h : SlT T o) : T[o + 1]? = some (101, 60) := h.2.2
def SlR (m : Mm) (o : Nat) : Prop := m o 0 = (o : Int) + 1
/-- shapes of ride -/
def RideT (T : List Kd) (o : Nat) : Prop := 0 < o ∧ T[o]? = some (4, 10) ∧ T[o + 1]? = some (100, 5) ∧ T[o + 2]? = some (100, 5)
theorem tride_0 {T : List Kd} {o : Nat} (h : RideT T o) : T[o]? = some (4, 10) := h.2.1
theorem tride_1 {T : List Kd} {o : Nat} (h : RideT T o) : T[o + 1]? = some (100, 5) := h.2.2.1
theorem tride_2 {T : List Kd} {o : Nat} (h : RideT T o) : T[o + 2]? = some (100, 5) := h.2.2.2
def RideR (m : Mm) (o : Nat) : Prop := m o 8 = (o : Int) + 1 ∧ m o 9 = (o : Int) + 2
/-- shapes of isle -/
def IsleT (T : List Kd) (o : Nat) : Prop := 0 < o ∧ T[o]? = some (3, 18) ∧ T[o + 1]? = some (100, 5) ∧ T[o + 2]? = some (100, 5) ∧ T[o + 3]? = some (100, 3) ∧ T[o + 4]? = some (100, 3) ∧ T[o + 5]? = some (100, 5) ∧ T[o + 6]? = some (100, 5) ∧ T[o + 7]? = some (100, 7) ∧ T[o + 8]? = some (100, 49)
theorem tisle_0 {T : List Kd} {o : Nat} (h : IsleT T o) : T[o]? = some (3, 18) := h.2.1
theorem tisle_1 {T : List Kd} {o : Nat} (h : IsleT T o) : T[o + 1]? = some (100, 5) := h.2.2.1
theorem tisle_2 {T : List Kd} {o : Nat} (h : IsleT T o) : T[o + 2]? = some (100, 5) := h.2.2.2.1
theorem tisle_3 {T : List Kd} {o : Nat} (h : IsleT T o) : T[o + 3]? = some (100, 3) := h.2.2.2.2.1
theorem tisle_4 {T : List Kd} {o : Nat} (h : IsleT T o) : T[o + 4]? = some (100, 3) := h.2.2.2.2.2.1
theorem tisle_5 {T : List Kd} {o : Nat} (h : IsleT T o) : T[o + 5]? = some (100, 5) := h.2.2.2.2.2.2.1
theorem tisle_6 {T : List Kd} {o : Nat} (h : IsleT T o) : T[o + 6]? = some (100, 5) := h.2.2.2.2.2.2.2.1
theorem tisle_7 {T : List Kd} {o : Nat} (h : IsleT T o) : T[o + 7]? = some (100, 7) := h.2.2.2.2.2.2.2.2.1
theorem tisle_8 {T : List Kd} {o : Nat} (h : IsleT T o) : T[o + 8]? = some (100, 49) := h.2.2.2.2.2.2.2.2.2
def IsleR (m : Mm) (o : Nat) : Prop := m o 10 = (o : Int) + 1 ∧ m o 11 = (o : Int) + 2 ∧ m o 12 = (o : Int) + 3 ∧ m o 13 = (o : Int) + 4 ∧ m o 14 = (o : Int) + 5 ∧ m o 15 = (o : Int) + 6 ∧ m o 16 = (o : Int) + 7 ∧ m o 17 = (o : Int) + 8
/-- shapes of acts -/
def ActsT (T : List Kd) (o : Nat) : Prop := 0 < o ∧ T[o]? = some (0, 3) ∧ T[o + 1]? = some (100, 12) ∧ T[o + 2]? = some (100, 12)
theorem tacts_0 {T : List Kd} {o : Nat} (h : ActsT T o) : T[o]? = some (0, 3) := h.2.1
theorem tacts_1 {T : List Kd} {o : Nat} (h : ActsT T o) : T[o + 1]? = some (100, 12) := h.2.2.1
theorem tacts_2 {T : List Kd} {o : Nat} (h : ActsT T o) : T[o + 2]? = some (100, 12) := h.2.2.2
def ActsR (m : Mm) (o : Nat) : Prop := m o 0 = (o : Int) + 1 ∧ m o 1 = (o : Int) + 2
/-- shapes of story -/
def StoryT (T : List Kd) (o : Nat) : Prop := 0 < o ∧ T[o]? = some (7, 14) ∧ T[o + 4]? = some (100, 13) ∧ T[o + 5]? = some (100, 13) ∧ T[o + 6]? = some (100, 13) ∧ T[o + 7]? = some (100, 65) ∧ T[o + 8]? = some (100, 65) ∧ T[o + 9]? = some (100, 12) ∧ T[o + 10]? = some (100, 12) ∧ T[o + 11]? = some (100, 12) ∧ T[o + 12]? = some (100, 5)
theorem tstory_0 {T : List Kd} {o : Nat} (h : StoryT T o) : T[o]? = some (7, 14) := h.2.1
theorem tstory_4 {T : List Kd} {o : Nat} (h : StoryT T o) : T[o + 4]? = some (100, 13) := h.2.2.1
theorem tstory_5 {T : List Kd} {o : Nat} (h : StoryT T o) : T[o + 5]? = some (100, 13) := h.2.2.2.1
theorem tstory_6 {T : List Kd} {o : Nat} (h : StoryT T o) : T[o + 6]? = some (100, 13) := h.2.2.2.2.1
theorem tstory_7 {T : List Kd} {o : Nat} (h : StoryT T o) : T[o + 7]? = some (100, 65) := h.2.2.2.2.2.1
theorem tstory_8 {T : List Kd} {o : Nat} (h : StoryT T o) : T[o + 8]? = some (100, 65) := h.2.2.2.2.2.2.1
theorem tstory_9 {T : List Kd} {o : Nat} (h : StoryT T o) : T[o + 9]? = some (100, 12) := h.2.2.2.2.2.2.2.1
theorem tstory_10 {T : List Kd} {o : Nat} (h : StoryT T o) : T[o + 10]? = some (100, 12) := h.2.2.2.2.2.2.2.2.1
theorem tstory_11 {T : List Kd} {o : Nat} (h : StoryT T o) : T[o + 11]? = some (100, 12) := h.2.2.2.2.2.2.2.2.2.1
theorem tstory_12 {T : List Kd} {o : Nat} (h : StoryT T o) : T[o + 12]? = some (100, 5) := h.2.2.2.2.2.2.2.2.2.2
def StoryR (m : Mm) (o : Nat) : Prop := m o 0 = (o : Int) + 1 ∧ m o 1 = (o : Int) + 4 ∧ m o 2 = (o : Int) + 5 ∧ m o 3 = (o : Int) + 6 ∧ m o 4 = (o : Int) + 7 ∧ m o 5 = (o : Int) + 8 ∧ m o 6 = (o : Int) + 9 ∧ m o 7 = (o : Int) + 10 ∧ m o 8 = (o : Int) + 11 ∧ m o 9 = (o : Int) + 12
theorem ob_sl : ∀ o : Nat, ([146, 148, 150, 152] : List Nat).contains o = true → 0 < o ∧ o < 200 ∧ tyK (tyO (o + 0)) = (6, 3) ∧ tyK (tyO (o + 1)) = (101, 60) ∧ pinF o 0 = o + 1 := by
  intro o h
  have h := List.contains_iff_mem.mp h
  simp only [List.mem_cons, List.not_mem_nil, or_false] at h
  rcases h with rfl | rfl | rfl | rfl <;> decide +kernel
theorem SlT_of {T : List Kd} (hT : TT T) {o : Nat} (hc : ([146, 148, 150, 152] : List Nat).contains o = true) : SlT T o := by
  have h := ob_sl o hc
  refine ⟨h.1, ?_, ?_⟩
  · have e := hT (o + 0) (by omega) (by omega)
    rw [h.2.2.1] at e
    exact e
  · have e := hT (o + 1) (by omega) (by omega)
    rw [h.2.2.2.1] at e
    exact e
theorem SlR_of {m : Mm} (hp : PinR m) {o : Nat} (hc : ([146, 148, 150, 152] : List Nat).contains o = true) : SlR m o := by
  have h := ob_sl o hc
  exact (by show m o 0 = (o : Int) + 1; have z : m o 0 = ((o + 1 : Nat) : Int) := pin_at hp h.2.2.2.2 (by omega); omega)
theorem ob_ride : ∀ o : Nat, ([29, 42, 59, 62, 65, 68, 71, 74, 77, 80, 83, 86, 89, 92, 95, 103, 106, 109, 112, 115, 118, 121, 124, 127, 130, 133, 136, 139] : List Nat).contains o = true → 0 < o ∧ o < 200 ∧ tyK (tyO (o + 0)) = (4, 10) ∧ tyK (tyO (o + 1)) = (100, 5) ∧ tyK (tyO (o + 2)) = (100, 5) ∧ pinF o 8 = o + 1 ∧ pinF o 9 = o + 2 := by
  intro o h
  have h := List.contains_iff_mem.mp h
  simp only [List.mem_cons, List.not_mem_nil, or_false] at h
  rcases h with rfl | rfl | rfl | rfl | rfl | rfl | rfl | rfl | rfl | rfl | rfl | rfl | rfl | rfl | rfl | rfl | rfl | rfl | rfl | rfl | rfl | rfl | rfl | rfl | rfl | rfl | rfl | rfl <;> decide +kernel
theorem RideT_of {T : List Kd} (hT : TT T) {o : Nat} (hc : ([29, 42, 59, 62, 65, 68, 71, 74, 77, 80, 83, 86, 89, 92, 95, 103, 106, 109, 112, 115, 118, 121, 124, 127, 130, 133, 136, 139] : List Nat).contains o = true) : RideT T o := by
  have h := ob_ride o hc
  refine ⟨h.1, ?_, ?_, ?_⟩
  · have e := hT (o + 0) (by omega) (by omega)
    rw [h.2.2.1] at e
    exact e
  · have e := hT (o + 1) (by omega) (by omega)
    rw [h.2.2.2.1] at e
    exact e
  · have e := hT (o + 2) (by omega) (by omega)
    rw [h.2.2.2.2.1] at e
    exact e
theorem RideR_of {m : Mm} (hp : PinR m) {o : Nat} (hc : ([29, 42, 59, 62, 65, 68, 71, 74, 77, 80, 83, 86, 89, 92, 95, 103, 106, 109, 112, 115, 118, 121, 124, 127, 130, 133, 136, 139] : List Nat).contains o = true) : RideR m o := by
  have h := ob_ride o hc
  exact ⟨by show m o 8 = (o : Int) + 1; have z : m o 8 = ((o + 1 : Nat) : Int) := pin_at hp h.2.2.2.2.2.1 (by omega); omega, by show m o 9 = (o : Int) + 2; have z : m o 9 = ((o + 2 : Nat) : Int) := pin_at hp h.2.2.2.2.2.2 (by omega); omega⟩
theorem ob_isle : ∀ o : Nat, ([4, 13, 156, 168, 180] : List Nat).contains o = true → 0 < o ∧ o < 200 ∧ tyK (tyO (o + 0)) = (3, 18) ∧ tyK (tyO (o + 1)) = (100, 5) ∧ tyK (tyO (o + 2)) = (100, 5) ∧ tyK (tyO (o + 3)) = (100, 3) ∧ tyK (tyO (o + 4)) = (100, 3) ∧ tyK (tyO (o + 5)) = (100, 5) ∧ tyK (tyO (o + 6)) = (100, 5) ∧ tyK (tyO (o + 7)) = (100, 7) ∧ tyK (tyO (o + 8)) = (100, 49) ∧ pinF o 10 = o + 1 ∧ pinF o 11 = o + 2 ∧ pinF o 12 = o + 3 ∧ pinF o 13 = o + 4 ∧ pinF o 14 = o + 5 ∧ pinF o 15 = o + 6 ∧ pinF o 16 = o + 7 ∧ pinF o 17 = o + 8 := by
  intro o h
  have h := List.contains_iff_mem.mp h
  simp only [List.mem_cons, List.not_mem_nil, or_false] at h
  rcases h with rfl | rfl | rfl | rfl | rfl <;> decide +kernel
theorem IsleT_of {T : List Kd} (hT : TT T) {o : Nat} (hc : ([4, 13, 156, 168, 180] : List Nat).contains o = true) : IsleT T o := by
  have h := ob_isle o hc
  refine ⟨h.1, ?_, ?_, ?_, ?_, ?_, ?_, ?_, ?_, ?_⟩
  · have e := hT (o + 0) (by omega) (by omega)
    rw [h.2.2.1] at e
    exact e
  · have e := hT (o + 1) (by omega) (by omega)
    rw [h.2.2.2.1] at e
    exact e
  · have e := hT (o + 2) (by omega) (by omega)
    rw [h.2.2.2.2.1] at e
    exact e
  · have e := hT (o + 3) (by omega) (by omega)
    rw [h.2.2.2.2.2.1] at e
    exact e
  · have e := hT (o + 4) (by omega) (by omega)
    rw [h.2.2.2.2.2.2.1] at e
    exact e
  · have e := hT (o + 5) (by omega) (by omega)
    rw [h.2.2.2.2.2.2.2.1] at e
    exact e
  · have e := hT (o + 6) (by omega) (by omega)
    rw [h.2.2.2.2.2.2.2.2.1] at e
    exact e
  · have e := hT (o + 7) (by omega) (by omega)
    rw [h.2.2.2.2.2.2.2.2.2.1] at e
    exact e
  · have e := hT (o + 8) (by omega) (by omega)
    rw [h.2.2.2.2.2.2.2.2.2.2.1] at e
    exact e
theorem IsleR_of {m : Mm} (hp : PinR m) {o : Nat} (hc : ([4, 13, 156, 168, 180] : List Nat).contains o = true) : IsleR m o := by
  have h := ob_isle o hc
  exact ⟨by show m o 10 = (o : Int) + 1; have z : m o 10 = ((o + 1 : Nat) : Int) := pin_at hp h.2.2.2.2.2.2.2.2.2.2.2.1 (by omega); omega, by show m o 11 = (o : Int) + 2; have z : m o 11 = ((o + 2 : Nat) : Int) := pin_at hp h.2.2.2.2.2.2.2.2.2.2.2.2.1 (by omega); omega, by show m o 12 = (o : Int) + 3; have z : m o 12 = ((o + 3 : Nat) : Int) := pin_at hp h.2.2.2.2.2.2.2.2.2.2.2.2.2.1 (by omega); omega, by show m o 13 = (o : Int) + 4; have z : m o 13 = ((o + 4 : Nat) : Int) := pin_at hp h.2.2.2.2.2.2.2.2.2.2.2.2.2.2.1 (by omega); omega, by show m o 14 = (o : Int) + 5; have z : m o 14 = ((o + 5 : Nat) : Int) := pin_at hp h.2.2.2.2.2.2.2.2.2.2.2.2.2.2.2.1 (by omega); omega, by show m o 15 = (o : Int) + 6; have z : m o 15 = ((o + 6 : Nat) : Int) := pin_at hp h.2.2.2.2.2.2.2.2.2.2.2.2.2.2.2.2.1 (by omega); omega, by show m o 16 = (o : Int) + 7; have z : m o 16 = ((o + 7 : Nat) : Int) := pin_at hp h.2.2.2.2.2.2.2.2.2.2.2.2.2.2.2.2.2.1 (by omega); omega, by show m o 17 = (o : Int) + 8; have z : m o 17 = ((o + 8 : Nat) : Int) := pin_at hp h.2.2.2.2.2.2.2.2.2.2.2.2.2.2.2.2.2.2 (by omega); omega⟩
theorem ob_acts : ∀ o : Nat, ([22, 25, 165, 177, 189] : List Nat).contains o = true → 0 < o ∧ o < 200 ∧ tyK (tyO (o + 0)) = (0, 3) ∧ tyK (tyO (o + 1)) = (100, 12) ∧ tyK (tyO (o + 2)) = (100, 12) ∧ pinF o 0 = o + 1 ∧ pinF o 1 = o + 2 := by
  intro o h
  have h := List.contains_iff_mem.mp h
  simp only [List.mem_cons, List.not_mem_nil, or_false] at h
  rcases h with rfl | rfl | rfl | rfl | rfl <;> decide +kernel
theorem ActsT_of {T : List Kd} (hT : TT T) {o : Nat} (hc : ([22, 25, 165, 177, 189] : List Nat).contains o = true) : ActsT T o := by
  have h := ob_acts o hc
  refine ⟨h.1, ?_, ?_, ?_⟩
  · have e := hT (o + 0) (by omega) (by omega)
    rw [h.2.2.1] at e
    exact e
  · have e := hT (o + 1) (by omega) (by omega)
    rw [h.2.2.2.1] at e
    exact e
  · have e := hT (o + 2) (by omega) (by omega)
    rw [h.2.2.2.2.1] at e
    exact e
theorem ActsR_of {m : Mm} (hp : PinR m) {o : Nat} (hc : ([22, 25, 165, 177, 189] : List Nat).contains o = true) : ActsR m o := by
  have h := ob_acts o hc
  exact ⟨by show m o 0 = (o : Int) + 1; have z : m o 0 = ((o + 1 : Nat) : Int) := pin_at hp h.2.2.2.2.2.1 (by omega); omega, by show m o 1 = (o : Int) + 2; have z : m o 1 = ((o + 2 : Nat) : Int) := pin_at hp h.2.2.2.2.2.2 (by omega); omega⟩
theorem ob_story : ∀ o : Nat, ([28, 41] : List Nat).contains o = true → 0 < o ∧ o < 200 ∧ tyK (tyO (o + 0)) = (7, 14) ∧ tyK (tyO (o + 4)) = (100, 13) ∧ tyK (tyO (o + 5)) = (100, 13) ∧ tyK (tyO (o + 6)) = (100, 13) ∧ tyK (tyO (o + 7)) = (100, 65) ∧ tyK (tyO (o + 8)) = (100, 65) ∧ tyK (tyO (o + 9)) = (100, 12) ∧ tyK (tyO (o + 10)) = (100, 12) ∧ tyK (tyO (o + 11)) = (100, 12) ∧ tyK (tyO (o + 12)) = (100, 5) ∧ pinF o 0 = o + 1 ∧ pinF o 1 = o + 4 ∧ pinF o 2 = o + 5 ∧ pinF o 3 = o + 6 ∧ pinF o 4 = o + 7 ∧ pinF o 5 = o + 8 ∧ pinF o 6 = o + 9 ∧ pinF o 7 = o + 10 ∧ pinF o 8 = o + 11 ∧ pinF o 9 = o + 12 := by
  intro o h
  have h := List.contains_iff_mem.mp h
  simp only [List.mem_cons, List.not_mem_nil, or_false] at h
  rcases h with rfl | rfl <;> decide +kernel
theorem StoryT_of {T : List Kd} (hT : TT T) {o : Nat} (hc : ([28, 41] : List Nat).contains o = true) : StoryT T o := by
  have h := ob_story o hc
  refine ⟨h.1, ?_, ?_, ?_, ?_, ?_, ?_, ?_, ?_, ?_, ?_⟩
  · have e := hT (o + 0) (by omega) (by omega)
    rw [h.2.2.1] at e
    exact e
  · have e := hT (o + 4) (by omega) (by omega)
    rw [h.2.2.2.1] at e
    exact e
  · have e := hT (o + 5) (by omega) (by omega)
    rw [h.2.2.2.2.1] at e
    exact e
  · have e := hT (o + 6) (by omega) (by omega)
    rw [h.2.2.2.2.2.1] at e
    exact e
  · have e := hT (o + 7) (by omega) (by omega)
    rw [h.2.2.2.2.2.2.1] at e
    exact e
  · have e := hT (o + 8) (by omega) (by omega)
    rw [h.2.2.2.2.2.2.2.1] at e
    exact e
  · have e := hT (o + 9) (by omega) (by omega)
    rw [h.2.2.2.2.2.2.2.2.1] at e
    exact e
  · have e := hT (o + 10) (by omega) (by omega)
    rw [h.2.2.2.2.2.2.2.2.2.1] at e
    exact e
  · have e := hT (o + 11) (by omega) (by omega)
    rw [h.2.2.2.2.2.2.2.2.2.2.1] at e
    exact e
  · have e := hT (o + 12) (by omega) (by omega)
    rw [h.2.2.2.2.2.2.2.2.2.2.2.1] at e
    exact e
theorem StoryR_of {m : Mm} (hp : PinR m) {o : Nat} (hc : ([28, 41] : List Nat).contains o = true) : StoryR m o := by
  have h := ob_story o hc
  exact ⟨by show m o 0 = (o : Int) + 1; have z : m o 0 = ((o + 1 : Nat) : Int) := pin_at hp h.2.2.2.2.2.2.2.2.2.2.2.2.1 (by omega); omega, by show m o 1 = (o : Int) + 4; have z : m o 1 = ((o + 4 : Nat) : Int) := pin_at hp h.2.2.2.2.2.2.2.2.2.2.2.2.2.1 (by omega); omega, by show m o 2 = (o : Int) + 5; have z : m o 2 = ((o + 5 : Nat) : Int) := pin_at hp h.2.2.2.2.2.2.2.2.2.2.2.2.2.2.1 (by omega); omega, by show m o 3 = (o : Int) + 6; have z : m o 3 = ((o + 6 : Nat) : Int) := pin_at hp h.2.2.2.2.2.2.2.2.2.2.2.2.2.2.2.1 (by omega); omega, by show m o 4 = (o : Int) + 7; have z : m o 4 = ((o + 7 : Nat) : Int) := pin_at hp h.2.2.2.2.2.2.2.2.2.2.2.2.2.2.2.2.1 (by omega); omega, by show m o 5 = (o : Int) + 8; have z : m o 5 = ((o + 8 : Nat) : Int) := pin_at hp h.2.2.2.2.2.2.2.2.2.2.2.2.2.2.2.2.2.1 (by omega); omega, by show m o 6 = (o : Int) + 9; have z : m o 6 = ((o + 9 : Nat) : Int) := pin_at hp h.2.2.2.2.2.2.2.2.2.2.2.2.2.2.2.2.2.2.1 (by omega); omega, by show m o 7 = (o : Int) + 10; have z : m o 7 = ((o + 10 : Nat) : Int) := pin_at hp h.2.2.2.2.2.2.2.2.2.2.2.2.2.2.2.2.2.2.2.1 (by omega); omega, by show m o 8 = (o : Int) + 11; have z : m o 8 = ((o + 11 : Nat) : Int) := pin_at hp h.2.2.2.2.2.2.2.2.2.2.2.2.2.2.2.2.2.2.2.2.1 (by omega); omega, by show m o 9 = (o : Int) + 12; have z : m o 9 = ((o + 12 : Nat) : Int) := pin_at hp h.2.2.2.2.2.2.2.2.2.2.2.2.2.2.2.2.2.2.2.2.2 (by omega); omega⟩
