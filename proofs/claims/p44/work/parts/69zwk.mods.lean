/-! rows of a world, worlds changed -/
/-- the rows of a world that throw him in an hour -/
def rowsW (w : Wd) (D : Nat → Nat → Int) : Nat → List (List Int) := fun L => rowsH w D (w 0).toNat L 13 0 (beginF w 0 (w 47))
/-- how many rows the soonest hour has -/
def WaysV (n : Nat) (rows : Nat → List (List Int)) (v : Int) : Prop := ∃ x : Int, RidF n rows x ∧ (x = -1 → v = 0) ∧ ∀ L : Nat, x = (L : Int) → v = ((rows L).length : Int)
theorem waysV_u {n : Nat} {r : Nat → List (List Int)} {v y : Int} (h1 : WaysV n r v) (h2 : WaysV n r y) : v = y := by
  obtain ⟨x, a1, a2, a3⟩ := h1
  obtain ⟨z, b1, b2, b3⟩ := h2
  have e := ridF_u a1 b1
  subst e
  rcases a1 with ⟨c1, _⟩ | ⟨L, _, c2, _⟩
  · rw [a2 c1, b2 c1]
  · rw [a3 L c2, b3 L c2]
/-- the act of the first row in an hour -/
def PlanV (n : Nat) (rows : Nat → List (List Int)) (h : Nat) (v : Int) : Prop := ∃ x : Int, RidF n rows x ∧ (x = -1 → v = -1) ∧ ∀ L : Nat, x = (L : Int) → v = hd0 (rows L) h
theorem planV_u {n h : Nat} {r : Nat → List (List Int)} {v y : Int} (h1 : PlanV n r h v) (h2 : PlanV n r h y) : v = y := by
  obtain ⟨x, a1, a2, a3⟩ := h1
  obtain ⟨z, b1, b2, b3⟩ := h2
  have e := ridF_u a1 b1
  subst e
  rcases a1 with ⟨c1, _⟩ | ⟨L, _, c2, _⟩
  · rw [a2 c1, b2 c1]
  · rw [a3 L c2, b3 L c2]
theorem hd0_no {l : List (List Int)} {k h : Nat} (e : ∀ r : List Int, r ∈ l → r.length = k) (hk : k ≤ h) : hd0 l h = 0 := by
  cases l with
  | nil => rfl
  | cons r l => exact at0_no (by rw [e r (List.mem_cons_self ..)]; exact hk)
/-- what a hunt of the class tells -/
theorem hunts_rid {m : Mm} {g n : Nat} {acc : Nat → List (List Int)} (h : HuntS m g ((n : Int) - 1) acc) : RidF n acc (m g 4) := by
  rcases h with ⟨h4, _, _, h7⟩ | ⟨L, h4, _, h7, h8, h9, _⟩
  · exact Or.inl ⟨h4, fun L hL => h7 L (by omega)⟩
  · exact Or.inr ⟨L, by omega, h4, h8, h9⟩
theorem hunts_ways {m : Mm} {g n : Nat} {acc : Nat → List (List Int)} (h : HuntS m g ((n : Int) - 1) acc) (hb : ∀ L : Nat, L < n → (acc L).length < 2147483647) : WaysV n acc (m g 5) := by
  refine ⟨m g 4, hunts_rid h, fun z => ?_, fun L z => ?_⟩
  · rcases h with ⟨_, h5, _, _⟩ | ⟨L, h4, _, _⟩
    · exact h5
    · omega
  · rcases h with ⟨h4, _, _, _⟩ | ⟨K, h4, _, h7, _, _, h5, _⟩
    · omega
    · have e : K = L := by omega
      subst e
      have := hb K (by omega)
      rw [h5]
      exact w32_eq (by rfl) (by omega) (by omega)
theorem hunts_plan {m : Mm} {g n h : Nat} {acc : Nat → List (List Int)} (hs : HuntS m g ((n : Int) - 1) acc) (hh : h < 12) : PlanV n acc h (if m g 4 = -1 then -1 else m (g + 3) h) := by
  refine ⟨m g 4, hunts_rid hs, fun z => if_pos z, fun L z => ?_⟩
  rw [if_neg (by omega)]
  rcases hs with ⟨h4, _, _, _⟩ | ⟨K, h4, _, h7, _, _, h5, h3⟩
  · omega
  · have e : K = L := by omega
    subst e
    exact h3 h hh
/-- worlds that differ in fruit, ripe hours and brooks alone -/
def ModW (w x : Wd) : Prop := ∀ i : Nat, i < 57 → ¬ i = 8 → ¬ i = 10 → ¬ (32 ≤ i ∧ i < 47 ∧ i % 2 = 0) → x i = w i
theorem modw_t (w : Wd) {t : Nat} (ht : t < 5) (y : Int) : ModW w (upw w (32 + 2 * t) y) := fun i _ _ _ z => upw_ne (fun e => z (by omega))
theorem modw_v (w : Wd) {v : Nat} (hv : v < 3) (y : Int) : ModW w (upw w (42 + 2 * v) y) := fun i _ _ _ z => upw_ne (fun e => z (by omega))
theorem modw_b (w : Wd) (y : Int) : ModW w (upw w 10 y) := fun i _ _ z _ => upw_ne z
theorem modw_WB {w x : Wd} (e : ModW w x) (h : WB w) : WB x := WB_eq h (fun i hi => e i (by omega) (by omega) (by omega) (by omega))
theorem modw_WP {w x : Wd} (e : ModW w x) (h : WP w) : WP x := by
  obtain ⟨h1, h2, h3⟩ := h
  refine ⟨fun t a b => ?_, fun t a b => ?_, fun t a b => ?_⟩
  · rw [e 5 (by decide) (by decide) (by decide) (by decide)] at b
    rw [e 0 (by decide) (by decide) (by decide) (by decide), e (31 + 2 * t) (by omega) (by omega) (by omega) (by omega)]; exact h1 t a b
  · rw [e 6 (by decide) (by decide) (by decide) (by decide)] at b
    rw [e 0 (by decide) (by decide) (by decide) (by decide), e (41 + 2 * t) (by omega) (by omega) (by omega) (by omega)]; exact h2 t a b
  · rw [e 7 (by decide) (by decide) (by decide) (by decide)] at b
    rw [e 0 (by decide) (by decide) (by decide) (by decide), e (47 + 2 * t) (by omega) (by omega) (by omega) (by omega), e (48 + 2 * t) (by omega) (by omega) (by omega) (by omega)]; exact h3 t a b
theorem modw_adj {w x : Wd} (e : ModW w x) : adjW x = adjW w := funext fun a => funext fun b => propext (adj_eq (fun i hi => e i (by omega) (by omega) (by omega) (by omega)) a b)
theorem modw_D {w x : Wd} {D : Nat → Nat → Int} (e : ModW w x) : WyD x D ↔ WyD w D := by
  unfold WyD
  rw [modw_adj e, e 0 (by decide) (by decide) (by decide) (by decide)]
theorem modw_wy {m : Mm} {o : Nat} {w x : Wd} (e : ModW w x) (h : IsWy m o w) : IsWy m o x := by
  intro d hd a b ha hb
  rw [modw_adj e, e 0 (by decide) (by decide) (by decide) (by decide)] at hd
  rw [e 0 (by decide) (by decide) (by decide) (by decide)] at ha hb
  exact h d hd a b ha hb
theorem modw_bs {f : Nat → Int} {w x : Wd} (e : ModW w x) (h : BS f w) : BS f x := by
  unfold BS at h ⊢
  rw [modw_adj e]
  exact h
/-- an isle with a cell changed tells the world changed so -/
theorem wd_modt {m : Mm} {o t : Nat} {w : Wd} {y : Int} (h : WD m o w) (ht : t < 5) : WD (nu_up m (o + 2) t y) o (upw w (32 + 2 * t) y) := by
  have e := modw_t w ht y
  have f : ∀ p i : Nat, ¬ p = o + 2 → nu_up m (o + 2) t y p i = m p i := fun p i z => nu_no z
  have g : ∀ i : Nat, i < 57 → ¬ i = 8 → ¬ i = 10 → ¬ (32 ≤ i ∧ i < 47 ∧ i % 2 = 0) → upw w (32 + 2 * t) y i = w i := e
  obtain ⟨⟨a0, a1, a2, a3, a4, a5, a6, a7, a8, a9, b1, b2, b3, b4⟩, hB, hW, hP⟩ := h
  refine ⟨⟨?_, ?_, ?_, ?_, ?_, ?_, ?_, ?_, ?_, ?_, fun k k1 k2 => ?_, fun k k1 k2 => ?_, fun k k1 k2 => ?_, ?_⟩, modw_WB e hB, isw_cp (modw_WB e hB) (modw_wy e hW) (fun k _ => f (o + 8) k (by omega)), modw_WP e hP⟩
  · rw [f o 0 (by omega), upw_ne (by omega)]; exact a0
  · rw [f o 1 (by omega), upw_ne (by omega)]; exact a1
  · rw [f o 2 (by omega), upw_ne (by omega)]; exact a2
  · rw [f o 3 (by omega), upw_ne (by omega)]; exact a3
  · rw [f o 4 (by omega), upw_ne (by omega)]; exact a4
  · rw [f o 5 (by omega), upw_ne (by omega)]; exact a5
  · rw [f o 6 (by omega), upw_ne (by omega)]; exact a6
  · rw [f o 7 (by omega), upw_ne (by omega)]; exact a7
  · rw [f o 8 (by omega), upw_ne (by omega)]; exact a8
  · rw [f o 9 (by omega), upw_ne (by omega)]; exact a9
  · rw [upw_ne (by omega)] at k2
    rw [f (o + 1) k (by omega), upw_ne (by omega)]
    refine ⟨(b1 k k1 k2).1, ?_⟩
    by_cases c : k = t
    · rw [c, nu_at, upw_at]
    · rw [nu_ne c, upw_ne (by omega)]; exact (b1 k k1 k2).2
  · rw [upw_ne (by omega)] at k2
    rw [f (o + 3) k (by omega), f (o + 4) k (by omega), upw_ne (by omega), upw_ne (by omega)]
    exact b2 k k1 k2
  · rw [upw_ne (by omega)] at k2
    rw [f (o + 5) k (by omega), f (o + 6) k (by omega), upw_ne (by omega), upw_ne (by omega)]
    exact b3 k k1 k2
  · rw [show nu_up m (o + 2) t y (o + 7) = m (o + 7) from funext fun i => f (o + 7) i (by omega)]
    exact modw_bs e b4
theorem wd_modv {m : Mm} {o t : Nat} {w : Wd} {y : Int} (h : WD m o w) (ht : t < 3) : WD (nu_up m (o + 4) t y) o (upw w (42 + 2 * t) y) := by
  have e := modw_v w ht y
  have f : ∀ p i : Nat, ¬ p = o + 4 → nu_up m (o + 4) t y p i = m p i := fun p i z => nu_no z
  obtain ⟨⟨a0, a1, a2, a3, a4, a5, a6, a7, a8, a9, b1, b2, b3, b4⟩, hB, hW, hP⟩ := h
  have q5 := hB.2.2.1
  refine ⟨⟨?_, ?_, ?_, ?_, ?_, ?_, ?_, ?_, ?_, ?_, fun k k1 k2 => ?_, fun k k1 k2 => ?_, fun k k1 k2 => ?_, ?_⟩, modw_WB e hB, isw_cp (modw_WB e hB) (modw_wy e hW) (fun k _ => f (o + 8) k (by omega)), modw_WP e hP⟩
  · rw [f o 0 (by omega), upw_ne (by omega)]; exact a0
  · rw [f o 1 (by omega), upw_ne (by omega)]; exact a1
  · rw [f o 2 (by omega), upw_ne (by omega)]; exact a2
  · rw [f o 3 (by omega), upw_ne (by omega)]; exact a3
  · rw [f o 4 (by omega), upw_ne (by omega)]; exact a4
  · rw [f o 5 (by omega), upw_ne (by omega)]; exact a5
  · rw [f o 6 (by omega), upw_ne (by omega)]; exact a6
  · rw [f o 7 (by omega), upw_ne (by omega)]; exact a7
  · rw [f o 8 (by omega), upw_ne (by omega)]; exact a8
  · rw [f o 9 (by omega), upw_ne (by omega)]; exact a9
  · rw [upw_ne (by omega)] at k2
    rw [f (o + 1) k (by omega), f (o + 2) k (by omega), upw_ne (by omega), upw_ne (by omega)]
    exact b1 k k1 k2
  · rw [upw_ne (by omega)] at k2
    rw [f (o + 3) k (by omega), upw_ne (by omega)]
    refine ⟨(b2 k k1 k2).1, ?_⟩
    by_cases c : k = t
    · rw [c, nu_at, upw_at]
    · rw [nu_ne c, upw_ne (by omega)]; exact (b2 k k1 k2).2
  · rw [upw_ne (by omega)] at k2
    rw [f (o + 5) k (by omega), f (o + 6) k (by omega), upw_ne (by omega), upw_ne (by omega)]
    exact b3 k k1 k2
  · rw [show nu_up m (o + 4) t y (o + 7) = m (o + 7) from funext fun i => f (o + 7) i (by omega)]
    exact modw_bs e b4
theorem wd_modb {m : Mm} {o : Nat} {w : Wd} {y : Int} (h : WD m o w) : WD (nu_up m o 9 y) o (upw w 10 y) := by
  have e := modw_b w y
  have f : ∀ p i : Nat, ¬ (p = o ∧ i = 9) → nu_up m o 9 y p i = m p i := fun p i z => nu_fz z
  obtain ⟨⟨a0, a1, a2, a3, a4, a5, a6, a7, a8, a9, b1, b2, b3, b4⟩, hB, hW, hP⟩ := h
  refine ⟨⟨?_, ?_, ?_, ?_, ?_, ?_, ?_, ?_, ?_, by rw [nu_at, upw_at], fun k k1 k2 => ?_, fun k k1 k2 => ?_, fun k k1 k2 => ?_, ?_⟩, modw_WB e hB, isw_cp (modw_WB e hB) (modw_wy e hW) (fun k _ => f (o + 8) k (by omega)), modw_WP e hP⟩
  · rw [f o 0 (by omega), upw_ne (by omega)]; exact a0
  · rw [f o 1 (by omega), upw_ne (by omega)]; exact a1
  · rw [f o 2 (by omega), upw_ne (by omega)]; exact a2
  · rw [f o 3 (by omega), upw_ne (by omega)]; exact a3
  · rw [f o 4 (by omega), upw_ne (by omega)]; exact a4
  · rw [f o 5 (by omega), upw_ne (by omega)]; exact a5
  · rw [f o 6 (by omega), upw_ne (by omega)]; exact a6
  · rw [f o 7 (by omega), upw_ne (by omega)]; exact a7
  · rw [f o 8 (by omega), upw_ne (by omega)]; exact a8
  · rw [upw_ne (by omega)] at k2
    rw [f (o + 1) k (by omega), f (o + 2) k (by omega), upw_ne (by omega), upw_ne (by omega)]
    exact b1 k k1 k2
  · rw [upw_ne (by omega)] at k2
    rw [f (o + 3) k (by omega), f (o + 4) k (by omega), upw_ne (by omega), upw_ne (by omega)]
    exact b2 k k1 k2
  · rw [upw_ne (by omega)] at k2
    rw [f (o + 5) k (by omega), f (o + 6) k (by omega), upw_ne (by omega), upw_ne (by omega)]
    exact b3 k k1 k2
  · rw [show nu_up m o 9 y (o + 7) = m (o + 7) from funext fun i => f (o + 7) i (by omega)]
    exact modw_bs e b4
/-- the reference's way to say the same -/
theorem ew_modt {m m1 : Mm} {w : Wd} {t : Nat} (h : EW (-1) m w) (ht : t < 5) (e1 : ∀ i : Nat, m1 193 i = m 193 i) (e2 : ∀ i : Nat, 24 ≤ i → i ≤ 28 → m1 192 i = m 192 i) (e3 : m1 192 23 = (t : Int)) : EW (t : Int) m1 (upw w (32 + 2 * t) 0) := by
  obtain ⟨a0, a1, a2, a3, a4, a5, a6, a7, a8⟩ := h
  refine ⟨fun i x y z => by rw [e1, upw_ne (by omega)]; exact a0 i x y z, by rw [e1, e2 26 (by decide) (by decide), upw_ne (by omega)]; exact a1, by rw [e1, e2 25 (by decide) (by decide), upw_ne (by omega)]; exact a2, fun k hk => by rw [e1, upw_ne (by omega)]; exact a3 k hk, e3, fun k hk x => by rw [e1, upw_ne (by omega)]; exact a5 k hk (by omega), fun k hk x => by rw [show k = t by omega, upw_at], fun v hv => ?_, fun b hb => ?_⟩
  · rw [e1, e1, e2 24 (by decide) (by decide), upw_ne (by omega), upw_ne (by omega)]; exact a7 v hv
  · rw [e1, e1, e2 27 (by decide) (by decide), e2 28 (by decide) (by decide), upw_ne (by omega), upw_ne (by omega)]; exact a8 b hb
theorem ew_modv {m m1 : Mm} {w : Wd} {v : Nat} (h : EW (-1) m w) (hv : v < 3) (h24 : m 192 24 = -1) (e1 : ∀ i : Nat, m1 193 i = m 193 i) (e2 : ∀ i : Nat, 23 ≤ i → i ≤ 28 → ¬ i = 24 → m1 192 i = m 192 i) (e3 : m1 192 24 = (v : Int)) : EW (-1) m1 (upw w (42 + 2 * v) 13) := by
  obtain ⟨a0, a1, a2, a3, a4, a5, a6, a7, a8⟩ := h
  refine ⟨fun i x y z => by rw [e1, upw_ne (by omega)]; exact a0 i x y z, by rw [e1, e2 26 (by decide) (by decide) (by decide), upw_ne (by omega)]; exact a1, by rw [e1, e2 25 (by decide) (by decide) (by decide), upw_ne (by omega)]; exact a2, fun k hk => by rw [e1, upw_ne (by omega)]; exact a3 k hk, by rw [e2 23 (by decide) (by decide) (by decide)]; exact a4, fun k hk x => by rw [e1, upw_ne (by omega)]; exact a5 k hk x, fun k hk x => by omega, fun u hu => ?_, fun b hb => ?_⟩
  · obtain ⟨c1, c2, c3⟩ := a7 u hu
    refine ⟨by rw [e1, upw_ne (by omega)]; exact c1, fun z => ?_, fun z => ?_⟩
    · rw [e3] at z
      rw [e1, upw_ne (by omega)]
      exact c2 (by omega)
    · rw [e3] at z
      rw [show u = v by omega, upw_at]; decide
  · rw [e1, e1, e2 27 (by decide) (by decide) (by decide), e2 28 (by decide) (by decide) (by decide), upw_ne (by omega), upw_ne (by omega)]; exact a8 b hb
theorem ew_modb {m m1 : Mm} {w : Wd} {x : Int} (h : EW (-1) m w) (h25 : m 192 25 = 0) (h10 : ior (m 193 10) 0 = m 193 10) (e1 : ∀ i : Nat, m1 193 i = m 193 i) (e2 : ∀ i : Nat, 23 ≤ i → i ≤ 28 → ¬ i = 25 → m1 192 i = m 192 i) (e3 : m1 192 25 = x) : EW (-1) m1 (upw w 10 (ior (w 10) x)) := by
  obtain ⟨a0, a1, a2, a3, a4, a5, a6, a7, a8⟩ := h
  have e10 : m 193 10 = w 10 := by rw [← a2, h25, h10]
  refine ⟨fun i x y z => by rw [e1, upw_ne (by omega)]; exact a0 i x y z, by rw [e1, e2 26 (by decide) (by decide) (by decide), upw_ne (by omega)]; exact a1, by rw [e1, e3, upw_at, e10], fun k hk => by rw [e1, upw_ne (by omega)]; exact a3 k hk, by rw [e2 23 (by decide) (by decide) (by decide)]; exact a4, fun k hk x => by rw [e1, upw_ne (by omega)]; exact a5 k hk x, fun k hk x => by omega, fun u hu => ?_, fun b hb => ?_⟩
  · rw [e1, e1, e2 24 (by decide) (by decide) (by decide), upw_ne (by omega), upw_ne (by omega)]; exact a7 u hu
  · rw [e1, e1, e2 27 (by decide) (by decide) (by decide), e2 28 (by decide) (by decide) (by decide), upw_ne (by omega), upw_ne (by omega)]; exact a8 b hb
theorem wbf_t {w : Wd} {t : Nat} (h : WBf w) (ht : t < 5) : WBf (upw w (32 + 2 * t) 0) := by
  refine ⟨by rw [upw_ne (by omega)]; exact h.1, fun k k1 k2 => ?_⟩
  rw [upw_ne (by omega)] at k2
  by_cases c : k = t
  · rw [c, upw_at]; decide
  · rw [upw_ne (by omega)]; exact h.2 k k1 k2
theorem wbf_v {w : Wd} {v : Nat} {y : Int} (h : WBf w) (hv : v < 3) : WBf (upw w (42 + 2 * v) y) := by
  refine ⟨by rw [upw_ne (by omega)]; exact h.1, fun k k1 k2 => ?_⟩
  rw [upw_ne (by omega)] at k2
  rw [upw_ne (by omega)]; exact h.2 k k1 k2
theorem wbf_b {w : Wd} {y : Int} (h : WBf w) : WBf (upw w 10 y) := by
  refine ⟨by rw [upw_ne (by omega)]; exact h.1, fun k k1 k2 => ?_⟩
  rw [upw_ne (by omega)] at k2
  rw [upw_ne (by omega)]; exact h.2 k k1 k2
theorem wr_t {w : Wd} {t : Nat} {y : Int} (h : WR w) (ht : t < 5) : WR (upw w (32 + 2 * t) y) := fun v v1 v2 => by
  rw [upw_ne (by omega)] at v2
  rw [upw_ne (by omega)]; exact h v v1 v2
theorem wr_v {w : Wd} {t : Nat} (h : WR w) (ht : t < 3) : WR (upw w (42 + 2 * t) 13) := fun v v1 v2 => by
  rw [upw_ne (by omega)] at v2
  by_cases c : v = t
  · rw [c, upw_at]; decide
  · rw [upw_ne (by omega)]; exact h v v1 v2
theorem wr_b {w : Wd} {y : Int} (h : WR w) : WR (upw w 10 y) := fun v v1 v2 => by
  rw [upw_ne (by omega)] at v2
  rw [upw_ne (by omega)]; exact h v v1 v2
theorem wr_pw {m : Mm} (hm : Gam m) : WR (pw (m 193)) := fun v v1 v2 => by
  rw [pw_at (by omega) (by omega)]
  have := gb_193_vr hm (k := v) v1
  omega
