/-! the first call, whatever it is -/
section TS
variable {d j pc : Nat} {L S : List AV} {sh : List Kd} {m : Mm} {r : AV × List Kd × Mm}
theorem Rn_ts {dd lo hi : Int} {offs : Array Int} {nx b c w : Nat} {a x : Int} (hx : row j pc = some (.tableswitch dd lo hi offs, nx, a, b, c, w)) (h1 : x < lo ∨ hi < x → Rn d j ((pc : Int) + dd).toNat L S sh m r) (hd : 0 ≤ (pc : Int) + dd) (h2 : ¬ (x < lo ∨ hi < x) → ∃ off, offs[(x - lo).toNat]? = some off ∧ 0 ≤ (pc : Int) + off ∧ Rn d j ((pc : Int) + off).toNat L S sh m r) : Rn d j pc L ((0, x) :: S) sh m r := by
  by_cases hp : x < lo ∨ hi < x
  · refine Rn_step hx rfl rfl (q := (((pc : Int) + dd).toNat, L, S, sh, m)) ?_ (h1 hp)
    show (if x < lo ∨ hi < x then (if 0 ≤ (pc : Int) + dd then some (((pc : Int) + dd).toNat, L, S, sh, m) else none) else _) = _
    rw [if_pos hp, if_pos hd]
  · obtain ⟨off, g1, g2, g3⟩ := h2 hp
    refine Rn_step hx rfl rfl (q := (((pc : Int) + off).toNat, L, S, sh, m)) ?_ g3
    show (if x < lo ∨ hi < x then _ else (offs[(x - lo).toNat]?).bind fun off => if 0 ≤ (pc : Int) + off then some (((pc : Int) + off).toNat, L, S, sh, m) else none) = _
    rw [if_neg hp, g1, Option.bind_some, if_pos g2]
end TS
/-- the law comes to its end with 1 from here -/
def Fin (pc : Nat) (m1 : Mm) : Prop := ∃ (sh' : List Kd) (m' : Mm), Rn 1000 316 pc [(2, 0), (2, 1), (2, 192), (0, 0)] [] (shT 6) m1 ((0, 1), sh', m') ∧ sh'.length ≤ 600001 ∧ tot sh' ≤ 7302250
/-- the state at the law's loop -/
def Gd (m1 : Mm) : Prop := (∀ (o : Nat) (kd : Kd), 0 < o → (shT 6)[o]? = some kd → ∀ i, i < kd.2 → gi (mT o i) (m1 o i)) ∧ ∀ i, in32 (m1 0 i)
set_option maxRecDepth 100000 in
theorem shT_len : (shT 6).length = 213 := by decide +kernel
theorem tot_take (T : List Kd) (c : Nat) : tot (T.take c) ≤ tot T := by
  have h : tot T = tot (T.take c) + tot (T.drop c) := by
    unfold tot
    rw [← List.sum_append, ← List.map_append, List.take_append_drop]
  omega
set_option maxRecDepth 100000 in
theorem shT_tot : tot (shT 6) ≤ 7302250 := by decide +kernel
theorem one_eq {c x : Int} (h : gi (one c) x) : x = c := by
  have := h (c, c) rfl
  omega
theorem gL_lH {L' : List AV} (h : gL lH L') : L' = [(2, 0), (2, 1), (2, 192), (0, 0)] := by
  match L', h with
  | [(a1, b1), (a2, b2), (a3, b3), (a4, b4)], ⟨⟨e1, f1⟩, ⟨e2, f2⟩, ⟨e3, f3⟩, ⟨e4, f4⟩, _⟩ =>
    dsimp only at e1 e2 e3 e4 f1 f2 f3 f4
    rw [e1, e2, e3, e4, one_eq f1, one_eq f2, one_eq f3, one_eq f4]
  | [], h => exact h.elim
  | [_], h => exact h.2.elim
  | [_, _], h => exact h.2.2.elim
  | [_, _, _], h => exact h.2.2.2.elim
  | _ :: _ :: _ :: _ :: _ :: _, h => exact h.2.2.2.2.elim
theorem lH_gL : gL lH [(2, 0), (2, 1), (2, 192), (0, 0)] := ⟨⟨rfl, gi_1⟩, ⟨rfl, gi_1⟩, ⟨rfl, gi_1⟩, ⟨rfl, gi_1⟩, trivial⟩
theorem fin_box {m1 : Mm} {pc : Nat} {p1 p2 p3 p4 p5 : List (Int × Int)} (hm : Gd m1) (hp : pts [p1, p2, p3, p4, p5] = true) (h : okP pc [fl] [p1, p2, p3, p4, p5] = true) : Fin pc m1 := by
  obtain ⟨q1, q2, q3, q4, q5, hb, b1, b2, b3, b4, b5⟩ := okP_ok hp h (hm.2 1) (hm.2 2) (hm.2 3) (hm.2 4) (hm.2 5)
  have hT : (shT 6).length ≤ 256 := by rw [shT_len]; decide
  have hg : gm (shT 6) 213 (bxM [fl, q1, q2, q3, q4, q5] mM) m1 := by
    intro o kd ho i hi
    have ho2 := lk_lt hT ho
    unfold bxM
    rw [rd_ts (by decide) ho2]
    unfold lk at ho
    split at ho
    · by_cases e : o = 0
      · subst e
        rw [if_pos rfl]
        have hk : kd = (100, 6) := (Option.some.inj ho).symm
        subst hk
        have b0 := hm.2 0
        unfold in32 at b0
        match i, hi with
        | 0, _ => intro z hz; cases hz; exact b0
        | 1, _ => intro z hz; cases hz; exact b1
        | 2, _ => intro z hz; cases hz; exact b2
        | 3, _ => intro z hz; cases hz; exact b3
        | 4, _ => intro z hz; cases hz; exact b4
        | 5, _ => intro z hz; cases hz; exact b5
        | n + 6, hi => exact absurd hi (by dsimp only; omega)
      · rw [if_neg e]
        have : rd mM o i = mT o i := by
          unfold rd mM
          rw [tg_tf 8 mT o ho2]
        rw [this]
        exact hm.1 o kd (by omega) ho i hi
    · cases ho
  unfold okB okR at hb
  split at hb
  · rename_i q hq
    obtain ⟨v, c', M'⟩ := q
    simp only [Bool.and_eq_true, decide_eq_true_eq] at hb
    obtain ⟨v', m', e1, e2, e3, -⟩ := runI_ok hT _ _ _ _ _ _ _ _ _ _ _ hq _ [] _ lH_gL trivial (by rw [shT_len]; exact Nat.le_refl _) hg
    have e4 : v' = (0, 1) := by
      obtain ⟨t, x⟩ := v'
      have g1 := e2.1
      have g2 := cst_ok hb.2 e2.2
      dsimp only at g1 g2
      rw [g1, g2, hb.1]
    rw [e4, show (213 : Nat) = (shT 6).length from shT_len.symm, List.take_length] at e1
    refine ⟨_, m', ⟨_, e1⟩, ?_, ?_⟩
    · rw [tk_len e3]; rw [shT_len] at e3; omega
    · exact Nat.le_trans (tot_take _ _) shT_tot
  · cases hb
theorem r_316_18 : row 316 18 = some (.iload_n 3, 19, 0, 0, 0, 0) := rfl
theorem r_316_19 : row 316 19 = some (.aload_n 0, 20, 0, 0, 0, 0) := rfl
theorem r_316_20 : row 316 20 = some (.arraylength, 21, 0, 0, 0, 0) := rfl
theorem r_316_21 : row 316 21 = some (.bipush 6, 23, 6, 0, 0, 0) := rfl
theorem r_316_23 : row 316 23 = some (.isub, 24, 0, 0, 0, 0) := rfl
theorem r_316_24 : row 316 24 = some (.if_icmp .gt 2081, 27, 2105, 0, 0, 0) := rfl
theorem r_316_27 : row 316 27 = some (.aload_n 0, 28, 0, 0, 0, 0) := rfl
theorem r_316_28 : row 316 28 = some (.iload_n 3, 29, 0, 0, 0, 0) := rfl
theorem r_316_29 : row 316 29 = some (.iaload, 30, 0, 0, 0, 0) := rfl
theorem r_316_30 : row 316 30 = some (.bipush 127, 32, 127, 0, 0, 0) := rfl
theorem r_316_32 : row 316 32 = some (.iand, 33, 0, 0, 0, 0) := rfl
theorem r_316_33 : row 316 33 = some (.tableswitch 2066 0 69 #[295, 358, 381, 394, 417, 450, 483, 516, 529, 562, 585, 608, 631, 654, 677, 710, 743, 766, 789, 802, 815, 828, 851, 864, 877, 910, 933, 956, 979, 1002, 1015, 1038, 1051, 1074, 1087, 1110, 1123, 1136, 1159, 1172, 1185, 1208, 1231, 1244, 1267, 1280, 1303, 1326, 1349, 1372, 1395, 1428, 1471, 1524, 1567, 1591, 1614, 1637, 1670, 1693, 1706, 1719, 1752, 1785, 1818, 1841, 1864, 1887, 1930, 2003], 328, 0, 0, 0, 0) := rfl
theorem r_316_1461 : row 316 1461 = some (.aload_n 1, 1462, 0, 0, 0, 0) := rfl
theorem r_316_1462 : row 316 1462 = some (.aload_n 0, 1463, 0, 0, 0, 0) := rfl
theorem r_316_1463 : row 316 1463 = some (.iload_n 3, 1464, 0, 0, 0, 0) := rfl
theorem r_316_1464 : row 316 1464 = some (.iconst 1, 1465, 1, 0, 0, 0) := rfl
theorem r_316_1465 : row 316 1465 = some (.iadd, 1466, 0, 0, 0, 0) := rfl
theorem r_316_1466 : row 316 1466 = some (.iaload, 1467, 0, 0, 0, 0) := rfl
theorem r_316_1467 : row 316 1467 = some (.aload_n 0, 1468, 0, 0, 0, 0) := rfl
theorem r_316_1468 : row 316 1468 = some (.iload_n 3, 1469, 0, 0, 0, 0) := rfl
theorem r_316_1469 : row 316 1469 = some (.iconst 2, 1470, 2, 0, 0, 0) := rfl
theorem r_316_1470 : row 316 1470 = some (.iadd, 1471, 0, 0, 0, 0) := rfl
theorem r_316_1471 : row 316 1471 = some (.iaload, 1472, 0, 0, 0, 0) := rfl
theorem r_316_1472 : row 316 1472 = some (.aload_n 0, 1473, 0, 0, 0, 0) := rfl
theorem r_316_1473 : row 316 1473 = some (.iload_n 3, 1474, 0, 0, 0, 0) := rfl
theorem r_316_1474 : row 316 1474 = some (.iconst 3, 1475, 3, 0, 0, 0) := rfl
theorem r_316_1475 : row 316 1475 = some (.iadd, 1476, 0, 0, 0, 0) := rfl
theorem r_316_1476 : row 316 1476 = some (.iaload, 1477, 0, 0, 0, 0) := rfl
theorem r_316_1477 : row 316 1477 = some (.invokevirtual 221, 1480, 52, 3, 0, 5100) := rfl
theorem r_316_1480 : row 316 1480 = some (.aload_n 2, 1481, 0, 0, 0, 0) := rfl
theorem r_316_1481 : row 316 1481 = some (.aload_n 0, 1482, 0, 0, 0, 0) := rfl
theorem r_316_1482 : row 316 1482 = some (.iload_n 3, 1483, 0, 0, 0, 0) := rfl
theorem r_316_1483 : row 316 1483 = some (.iconst 1, 1484, 1, 0, 0, 0) := rfl
theorem r_316_1484 : row 316 1484 = some (.iadd, 1485, 0, 0, 0, 0) := rfl
theorem r_316_1485 : row 316 1485 = some (.iaload, 1486, 0, 0, 0, 0) := rfl
theorem r_316_1486 : row 316 1486 = some (.aload_n 0, 1487, 0, 0, 0, 0) := rfl
theorem r_316_1487 : row 316 1487 = some (.iload_n 3, 1488, 0, 0, 0, 0) := rfl
theorem r_316_1488 : row 316 1488 = some (.iconst 2, 1489, 2, 0, 0, 0) := rfl
theorem r_316_1489 : row 316 1489 = some (.iadd, 1490, 0, 0, 0, 0) := rfl
theorem r_316_1490 : row 316 1490 = some (.iaload, 1491, 0, 0, 0, 0) := rfl
theorem r_316_1491 : row 316 1491 = some (.aload_n 0, 1492, 0, 0, 0, 0) := rfl
theorem r_316_1492 : row 316 1492 = some (.iload_n 3, 1493, 0, 0, 0, 0) := rfl
theorem r_316_1493 : row 316 1493 = some (.iconst 3, 1494, 3, 0, 0, 0) := rfl
theorem r_316_1494 : row 316 1494 = some (.iadd, 1495, 0, 0, 0, 0) := rfl
theorem r_316_1495 : row 316 1495 = some (.iaload, 1496, 0, 0, 0, 0) := rfl
theorem r_316_1496 : row 316 1496 = some (.invokevirtual 225, 1499, 206, 3, 0, 8150) := rfl
theorem r_316_1499 : row 316 1499 = some (.if_icmp .eq 600, 1502, 2099, 0, 0, 0) := rfl
theorem r_316_1504 : row 316 1504 = some (.aload_n 1, 1505, 0, 0, 0, 0) := rfl
theorem r_316_1505 : row 316 1505 = some (.aload_n 0, 1506, 0, 0, 0, 0) := rfl
theorem r_316_1506 : row 316 1506 = some (.iload_n 3, 1507, 0, 0, 0, 0) := rfl
theorem r_316_1507 : row 316 1507 = some (.iconst 1, 1508, 1, 0, 0, 0) := rfl
theorem r_316_1508 : row 316 1508 = some (.iadd, 1509, 0, 0, 0, 0) := rfl
theorem r_316_1509 : row 316 1509 = some (.iaload, 1510, 0, 0, 0, 0) := rfl
theorem r_316_1510 : row 316 1510 = some (.aload_n 0, 1511, 0, 0, 0, 0) := rfl
theorem r_316_1511 : row 316 1511 = some (.iload_n 3, 1512, 0, 0, 0, 0) := rfl
theorem r_316_1512 : row 316 1512 = some (.iconst 2, 1513, 2, 0, 0, 0) := rfl
theorem r_316_1513 : row 316 1513 = some (.iadd, 1514, 0, 0, 0, 0) := rfl
theorem r_316_1514 : row 316 1514 = some (.iaload, 1515, 0, 0, 0, 0) := rfl
theorem r_316_1515 : row 316 1515 = some (.aload_n 0, 1516, 0, 0, 0, 0) := rfl
theorem r_316_1516 : row 316 1516 = some (.iload_n 3, 1517, 0, 0, 0, 0) := rfl
theorem r_316_1517 : row 316 1517 = some (.iconst 3, 1518, 3, 0, 0, 0) := rfl
theorem r_316_1518 : row 316 1518 = some (.iadd, 1519, 0, 0, 0, 0) := rfl
theorem r_316_1519 : row 316 1519 = some (.iaload, 1520, 0, 0, 0, 0) := rfl
theorem r_316_1520 : row 316 1520 = some (.aload_n 0, 1521, 0, 0, 0, 0) := rfl
theorem r_316_1521 : row 316 1521 = some (.iload_n 3, 1522, 0, 0, 0, 0) := rfl
theorem r_316_1522 : row 316 1522 = some (.iconst 4, 1523, 4, 0, 0, 0) := rfl
theorem r_316_1523 : row 316 1523 = some (.iadd, 1524, 0, 0, 0, 0) := rfl
theorem r_316_1524 : row 316 1524 = some (.iaload, 1525, 0, 0, 0, 0) := rfl
theorem r_316_1525 : row 316 1525 = some (.invokevirtual 226, 1528, 53, 4, 0, 5104) := rfl
theorem r_316_1528 : row 316 1528 = some (.aload_n 2, 1529, 0, 0, 0, 0) := rfl
theorem r_316_1529 : row 316 1529 = some (.aload_n 0, 1530, 0, 0, 0, 0) := rfl
theorem r_316_1530 : row 316 1530 = some (.iload_n 3, 1531, 0, 0, 0, 0) := rfl
theorem r_316_1531 : row 316 1531 = some (.iconst 1, 1532, 1, 0, 0, 0) := rfl
theorem r_316_1532 : row 316 1532 = some (.iadd, 1533, 0, 0, 0, 0) := rfl
theorem r_316_1533 : row 316 1533 = some (.iaload, 1534, 0, 0, 0, 0) := rfl
theorem r_316_1534 : row 316 1534 = some (.aload_n 0, 1535, 0, 0, 0, 0) := rfl
theorem r_316_1535 : row 316 1535 = some (.iload_n 3, 1536, 0, 0, 0, 0) := rfl
theorem r_316_1536 : row 316 1536 = some (.iconst 2, 1537, 2, 0, 0, 0) := rfl
theorem r_316_1537 : row 316 1537 = some (.iadd, 1538, 0, 0, 0, 0) := rfl
theorem r_316_1538 : row 316 1538 = some (.iaload, 1539, 0, 0, 0, 0) := rfl
theorem r_316_1539 : row 316 1539 = some (.aload_n 0, 1540, 0, 0, 0, 0) := rfl
theorem r_316_1540 : row 316 1540 = some (.iload_n 3, 1541, 0, 0, 0, 0) := rfl
theorem r_316_1541 : row 316 1541 = some (.iconst 3, 1542, 3, 0, 0, 0) := rfl
theorem r_316_1542 : row 316 1542 = some (.iadd, 1543, 0, 0, 0, 0) := rfl
theorem r_316_1543 : row 316 1543 = some (.iaload, 1544, 0, 0, 0, 0) := rfl
theorem r_316_1544 : row 316 1544 = some (.aload_n 0, 1545, 0, 0, 0, 0) := rfl
theorem r_316_1545 : row 316 1545 = some (.iload_n 3, 1546, 0, 0, 0, 0) := rfl
theorem r_316_1546 : row 316 1546 = some (.iconst 4, 1547, 4, 0, 0, 0) := rfl
theorem r_316_1547 : row 316 1547 = some (.iadd, 1548, 0, 0, 0, 0) := rfl
theorem r_316_1548 : row 316 1548 = some (.iaload, 1549, 0, 0, 0, 0) := rfl
theorem r_316_1549 : row 316 1549 = some (.invokevirtual 230, 1552, 208, 4, 0, 8158) := rfl
theorem r_316_1552 : row 316 1552 = some (.if_icmp .eq 547, 1555, 2099, 0, 0, 0) := rfl
theorem r_316_1557 : row 316 1557 = some (.aload_n 1, 1558, 0, 0, 0, 0) := rfl
theorem r_316_1558 : row 316 1558 = some (.aload_n 0, 1559, 0, 0, 0, 0) := rfl
theorem r_316_1559 : row 316 1559 = some (.iload_n 3, 1560, 0, 0, 0, 0) := rfl
theorem r_316_1560 : row 316 1560 = some (.iconst 1, 1561, 1, 0, 0, 0) := rfl
theorem r_316_1561 : row 316 1561 = some (.iadd, 1562, 0, 0, 0, 0) := rfl
theorem r_316_1562 : row 316 1562 = some (.iaload, 1563, 0, 0, 0, 0) := rfl
theorem r_316_1563 : row 316 1563 = some (.aload_n 0, 1564, 0, 0, 0, 0) := rfl
theorem r_316_1564 : row 316 1564 = some (.iload_n 3, 1565, 0, 0, 0, 0) := rfl
theorem r_316_1565 : row 316 1565 = some (.iconst 2, 1566, 2, 0, 0, 0) := rfl
theorem r_316_1566 : row 316 1566 = some (.iadd, 1567, 0, 0, 0, 0) := rfl
theorem r_316_1567 : row 316 1567 = some (.iaload, 1568, 0, 0, 0, 0) := rfl
theorem r_316_1568 : row 316 1568 = some (.aload_n 0, 1569, 0, 0, 0, 0) := rfl
theorem r_316_1569 : row 316 1569 = some (.iload_n 3, 1570, 0, 0, 0, 0) := rfl
theorem r_316_1570 : row 316 1570 = some (.iconst 3, 1571, 3, 0, 0, 0) := rfl
theorem r_316_1571 : row 316 1571 = some (.iadd, 1572, 0, 0, 0, 0) := rfl
theorem r_316_1572 : row 316 1572 = some (.iaload, 1573, 0, 0, 0, 0) := rfl
theorem r_316_1573 : row 316 1573 = some (.invokevirtual 231, 1576, 54, 3, 0, 5111) := rfl
theorem r_316_1576 : row 316 1576 = some (.aload_n 2, 1577, 0, 0, 0, 0) := rfl
theorem r_316_1577 : row 316 1577 = some (.aload_n 0, 1578, 0, 0, 0, 0) := rfl
theorem r_316_1578 : row 316 1578 = some (.iload_n 3, 1579, 0, 0, 0, 0) := rfl
theorem r_316_1579 : row 316 1579 = some (.iconst 1, 1580, 1, 0, 0, 0) := rfl
theorem r_316_1580 : row 316 1580 = some (.iadd, 1581, 0, 0, 0, 0) := rfl
theorem r_316_1581 : row 316 1581 = some (.iaload, 1582, 0, 0, 0, 0) := rfl
theorem r_316_1582 : row 316 1582 = some (.aload_n 0, 1583, 0, 0, 0, 0) := rfl
theorem r_316_1583 : row 316 1583 = some (.iload_n 3, 1584, 0, 0, 0, 0) := rfl
theorem r_316_1584 : row 316 1584 = some (.iconst 2, 1585, 2, 0, 0, 0) := rfl
theorem r_316_1585 : row 316 1585 = some (.iadd, 1586, 0, 0, 0, 0) := rfl
theorem r_316_1586 : row 316 1586 = some (.iaload, 1587, 0, 0, 0, 0) := rfl
theorem r_316_1587 : row 316 1587 = some (.aload_n 0, 1588, 0, 0, 0, 0) := rfl
theorem r_316_1588 : row 316 1588 = some (.iload_n 3, 1589, 0, 0, 0, 0) := rfl
theorem r_316_1589 : row 316 1589 = some (.iconst 3, 1590, 3, 0, 0, 0) := rfl
theorem r_316_1590 : row 316 1590 = some (.iadd, 1591, 0, 0, 0, 0) := rfl
theorem r_316_1591 : row 316 1591 = some (.iaload, 1592, 0, 0, 0, 0) := rfl
theorem r_316_1592 : row 316 1592 = some (.invokevirtual 234, 1595, 209, 3, 0, 8166) := rfl
theorem r_316_1595 : row 316 1595 = some (.if_icmp .eq 504, 1598, 2099, 0, 0, 0) := rfl
theorem fin_51 {m1 : Mm} (hf : Fin 2099 m1) : Fin 1461 m1 := by
  obtain ⟨sh2, m2, h, a, b⟩ := hf
  refine ⟨sh2, m2, ?_, a, b⟩
  refine Rn_st r_316_1461 rfl rfl rfl ?_
  refine Rn_st r_316_1462 rfl rfl rfl ?_
  refine Rn_st r_316_1463 rfl rfl rfl ?_
  refine Rn_st r_316_1464 rfl rfl rfl ?_
  refine Rn_st r_316_1465 rfl rfl rfl ?_
  rw [show w32 (0 + 1) = 1 from by decide]
  refine Rn_st (L' := [(2, 0), (2, 1), (2, 192), (0, 0)]) (S' := [(0, m1 0 1), (2, 1)]) r_316_1466 rfl rfl rfl ?_
  refine Rn_st r_316_1467 rfl rfl rfl ?_
  refine Rn_st r_316_1468 rfl rfl rfl ?_
  refine Rn_st r_316_1469 rfl rfl rfl ?_
  refine Rn_st r_316_1470 rfl rfl rfl ?_
  rw [show w32 (0 + 2) = 2 from by decide]
  refine Rn_st (L' := [(2, 0), (2, 1), (2, 192), (0, 0)]) (S' := [(0, m1 0 2), (0, m1 0 1), (2, 1)]) r_316_1471 rfl rfl rfl ?_
  refine Rn_st r_316_1472 rfl rfl rfl ?_
  refine Rn_st r_316_1473 rfl rfl rfl ?_
  refine Rn_st r_316_1474 rfl rfl rfl ?_
  refine Rn_st r_316_1475 rfl rfl rfl ?_
  rw [show w32 (0 + 3) = 3 from by decide]
  refine Rn_st (L' := [(2, 0), (2, 1), (2, 192), (0, 0)]) (S' := [(0, m1 0 3), (0, m1 0 2), (0, m1 0 1), (2, 1)]) r_316_1476 rfl rfl rfl ?_
  refine Rn_cl (k := 52) (nx := 1480) (S2 := [(0, sgV (m1 0 1) (m1 0 2) (m1 0 3))]) r_316_1477 rfl rfl rfl rfl rfl rfl (c_52 _ (m1 0 1) (m1 0 2) (m1 0 3)) rfl ?_
  refine Rn_st r_316_1480 rfl rfl rfl ?_
  refine Rn_st r_316_1481 rfl rfl rfl ?_
  refine Rn_st r_316_1482 rfl rfl rfl ?_
  refine Rn_st r_316_1483 rfl rfl rfl ?_
  refine Rn_st r_316_1484 rfl rfl rfl ?_
  rw [show w32 (0 + 1) = 1 from by decide]
  refine Rn_st (L' := [(2, 0), (2, 1), (2, 192), (0, 0)]) (S' := [(0, m1 0 1), (2, 192), (0, sgV (m1 0 1) (m1 0 2) (m1 0 3))]) r_316_1485 rfl rfl rfl ?_
  refine Rn_st r_316_1486 rfl rfl rfl ?_
  refine Rn_st r_316_1487 rfl rfl rfl ?_
  refine Rn_st r_316_1488 rfl rfl rfl ?_
  refine Rn_st r_316_1489 rfl rfl rfl ?_
  rw [show w32 (0 + 2) = 2 from by decide]
  refine Rn_st (L' := [(2, 0), (2, 1), (2, 192), (0, 0)]) (S' := [(0, m1 0 2), (0, m1 0 1), (2, 192), (0, sgV (m1 0 1) (m1 0 2) (m1 0 3))]) r_316_1490 rfl rfl rfl ?_
  refine Rn_st r_316_1491 rfl rfl rfl ?_
  refine Rn_st r_316_1492 rfl rfl rfl ?_
  refine Rn_st r_316_1493 rfl rfl rfl ?_
  refine Rn_st r_316_1494 rfl rfl rfl ?_
  rw [show w32 (0 + 3) = 3 from by decide]
  refine Rn_st (L' := [(2, 0), (2, 1), (2, 192), (0, 0)]) (S' := [(0, m1 0 3), (0, m1 0 2), (0, m1 0 1), (2, 192), (0, sgV (m1 0 1) (m1 0 2) (m1 0 3))]) r_316_1495 rfl rfl rfl ?_
  refine Rn_cl (k := 206) (nx := 1499) (S2 := [(0, sgV (m1 0 1) (m1 0 2) (m1 0 3)), (0, sgV (m1 0 1) (m1 0 2) (m1 0 3))]) r_316_1496 rfl rfl rfl rfl rfl rfl (c_206 _ (m1 0 1) (m1 0 2) (m1 0 3)) rfl ?_
  refine Rn_ic (P := sgV (m1 0 1) (m1 0 2) (m1 0 3) = sgV (m1 0 1) (m1 0 2) (m1 0 3)) r_316_1499 rfl (fun _ => h) (fun z => absurd rfl z)
theorem fin_52 {m1 : Mm} (hf : Fin 2099 m1) : Fin 1504 m1 := by
  obtain ⟨sh2, m2, h, a, b⟩ := hf
  refine ⟨sh2, m2, ?_, a, b⟩
  refine Rn_st r_316_1504 rfl rfl rfl ?_
  refine Rn_st r_316_1505 rfl rfl rfl ?_
  refine Rn_st r_316_1506 rfl rfl rfl ?_
  refine Rn_st r_316_1507 rfl rfl rfl ?_
  refine Rn_st r_316_1508 rfl rfl rfl ?_
  rw [show w32 (0 + 1) = 1 from by decide]
  refine Rn_st (L' := [(2, 0), (2, 1), (2, 192), (0, 0)]) (S' := [(0, m1 0 1), (2, 1)]) r_316_1509 rfl rfl rfl ?_
  refine Rn_st r_316_1510 rfl rfl rfl ?_
  refine Rn_st r_316_1511 rfl rfl rfl ?_
  refine Rn_st r_316_1512 rfl rfl rfl ?_
  refine Rn_st r_316_1513 rfl rfl rfl ?_
  rw [show w32 (0 + 2) = 2 from by decide]
  refine Rn_st (L' := [(2, 0), (2, 1), (2, 192), (0, 0)]) (S' := [(0, m1 0 2), (0, m1 0 1), (2, 1)]) r_316_1514 rfl rfl rfl ?_
  refine Rn_st r_316_1515 rfl rfl rfl ?_
  refine Rn_st r_316_1516 rfl rfl rfl ?_
  refine Rn_st r_316_1517 rfl rfl rfl ?_
  refine Rn_st r_316_1518 rfl rfl rfl ?_
  rw [show w32 (0 + 3) = 3 from by decide]
  refine Rn_st (L' := [(2, 0), (2, 1), (2, 192), (0, 0)]) (S' := [(0, m1 0 3), (0, m1 0 2), (0, m1 0 1), (2, 1)]) r_316_1519 rfl rfl rfl ?_
  refine Rn_st r_316_1520 rfl rfl rfl ?_
  refine Rn_st r_316_1521 rfl rfl rfl ?_
  refine Rn_st r_316_1522 rfl rfl rfl ?_
  refine Rn_st r_316_1523 rfl rfl rfl ?_
  rw [show w32 (0 + 4) = 4 from by decide]
  refine Rn_st (L' := [(2, 0), (2, 1), (2, 192), (0, 0)]) (S' := [(0, m1 0 4), (0, m1 0 3), (0, m1 0 2), (0, m1 0 1), (2, 1)]) r_316_1524 rfl rfl rfl ?_
  refine Rn_cl (k := 53) (nx := 1528) (S2 := [(0, askV (m1 0 1) (m1 0 2) (m1 0 3) (m1 0 4))]) r_316_1525 rfl rfl rfl rfl rfl rfl (c_53 _ (m1 0 1) (m1 0 2) (m1 0 3) (m1 0 4)) rfl ?_
  refine Rn_st r_316_1528 rfl rfl rfl ?_
  refine Rn_st r_316_1529 rfl rfl rfl ?_
  refine Rn_st r_316_1530 rfl rfl rfl ?_
  refine Rn_st r_316_1531 rfl rfl rfl ?_
  refine Rn_st r_316_1532 rfl rfl rfl ?_
  rw [show w32 (0 + 1) = 1 from by decide]
  refine Rn_st (L' := [(2, 0), (2, 1), (2, 192), (0, 0)]) (S' := [(0, m1 0 1), (2, 192), (0, askV (m1 0 1) (m1 0 2) (m1 0 3) (m1 0 4))]) r_316_1533 rfl rfl rfl ?_
  refine Rn_st r_316_1534 rfl rfl rfl ?_
  refine Rn_st r_316_1535 rfl rfl rfl ?_
  refine Rn_st r_316_1536 rfl rfl rfl ?_
  refine Rn_st r_316_1537 rfl rfl rfl ?_
  rw [show w32 (0 + 2) = 2 from by decide]
  refine Rn_st (L' := [(2, 0), (2, 1), (2, 192), (0, 0)]) (S' := [(0, m1 0 2), (0, m1 0 1), (2, 192), (0, askV (m1 0 1) (m1 0 2) (m1 0 3) (m1 0 4))]) r_316_1538 rfl rfl rfl ?_
  refine Rn_st r_316_1539 rfl rfl rfl ?_
  refine Rn_st r_316_1540 rfl rfl rfl ?_
  refine Rn_st r_316_1541 rfl rfl rfl ?_
  refine Rn_st r_316_1542 rfl rfl rfl ?_
  rw [show w32 (0 + 3) = 3 from by decide]
  refine Rn_st (L' := [(2, 0), (2, 1), (2, 192), (0, 0)]) (S' := [(0, m1 0 3), (0, m1 0 2), (0, m1 0 1), (2, 192), (0, askV (m1 0 1) (m1 0 2) (m1 0 3) (m1 0 4))]) r_316_1543 rfl rfl rfl ?_
  refine Rn_st r_316_1544 rfl rfl rfl ?_
  refine Rn_st r_316_1545 rfl rfl rfl ?_
  refine Rn_st r_316_1546 rfl rfl rfl ?_
  refine Rn_st r_316_1547 rfl rfl rfl ?_
  rw [show w32 (0 + 4) = 4 from by decide]
  refine Rn_st (L' := [(2, 0), (2, 1), (2, 192), (0, 0)]) (S' := [(0, m1 0 4), (0, m1 0 3), (0, m1 0 2), (0, m1 0 1), (2, 192), (0, askV (m1 0 1) (m1 0 2) (m1 0 3) (m1 0 4))]) r_316_1548 rfl rfl rfl ?_
  refine Rn_cl (k := 208) (nx := 1552) (S2 := [(0, askV (m1 0 1) (m1 0 2) (m1 0 3) (m1 0 4)), (0, askV (m1 0 1) (m1 0 2) (m1 0 3) (m1 0 4))]) r_316_1549 rfl rfl rfl rfl rfl rfl (c_208 _ (m1 0 1) (m1 0 2) (m1 0 3) (m1 0 4)) rfl ?_
  refine Rn_ic (P := askV (m1 0 1) (m1 0 2) (m1 0 3) (m1 0 4) = askV (m1 0 1) (m1 0 2) (m1 0 3) (m1 0 4)) r_316_1552 rfl (fun _ => h) (fun z => absurd rfl z)
theorem fin_53 {m1 : Mm} (hf : Fin 2099 m1) : Fin 1557 m1 := by
  obtain ⟨sh2, m2, h, a, b⟩ := hf
  refine ⟨sh2, m2, ?_, a, b⟩
  refine Rn_st r_316_1557 rfl rfl rfl ?_
  refine Rn_st r_316_1558 rfl rfl rfl ?_
  refine Rn_st r_316_1559 rfl rfl rfl ?_
  refine Rn_st r_316_1560 rfl rfl rfl ?_
  refine Rn_st r_316_1561 rfl rfl rfl ?_
  rw [show w32 (0 + 1) = 1 from by decide]
  refine Rn_st (L' := [(2, 0), (2, 1), (2, 192), (0, 0)]) (S' := [(0, m1 0 1), (2, 1)]) r_316_1562 rfl rfl rfl ?_
  refine Rn_st r_316_1563 rfl rfl rfl ?_
  refine Rn_st r_316_1564 rfl rfl rfl ?_
  refine Rn_st r_316_1565 rfl rfl rfl ?_
  refine Rn_st r_316_1566 rfl rfl rfl ?_
  rw [show w32 (0 + 2) = 2 from by decide]
  refine Rn_st (L' := [(2, 0), (2, 1), (2, 192), (0, 0)]) (S' := [(0, m1 0 2), (0, m1 0 1), (2, 1)]) r_316_1567 rfl rfl rfl ?_
  refine Rn_st r_316_1568 rfl rfl rfl ?_
  refine Rn_st r_316_1569 rfl rfl rfl ?_
  refine Rn_st r_316_1570 rfl rfl rfl ?_
  refine Rn_st r_316_1571 rfl rfl rfl ?_
  rw [show w32 (0 + 3) = 3 from by decide]
  refine Rn_st (L' := [(2, 0), (2, 1), (2, 192), (0, 0)]) (S' := [(0, m1 0 3), (0, m1 0 2), (0, m1 0 1), (2, 1)]) r_316_1572 rfl rfl rfl ?_
  refine Rn_cl (k := 54) (nx := 1576) (S2 := [(0, trV (m1 0 1) (m1 0 2) (m1 0 3))]) r_316_1573 rfl rfl rfl rfl rfl rfl (c_54 _ (m1 0 1) (m1 0 2) (m1 0 3)) rfl ?_
  refine Rn_st r_316_1576 rfl rfl rfl ?_
  refine Rn_st r_316_1577 rfl rfl rfl ?_
  refine Rn_st r_316_1578 rfl rfl rfl ?_
  refine Rn_st r_316_1579 rfl rfl rfl ?_
  refine Rn_st r_316_1580 rfl rfl rfl ?_
  rw [show w32 (0 + 1) = 1 from by decide]
  refine Rn_st (L' := [(2, 0), (2, 1), (2, 192), (0, 0)]) (S' := [(0, m1 0 1), (2, 192), (0, trV (m1 0 1) (m1 0 2) (m1 0 3))]) r_316_1581 rfl rfl rfl ?_
  refine Rn_st r_316_1582 rfl rfl rfl ?_
  refine Rn_st r_316_1583 rfl rfl rfl ?_
  refine Rn_st r_316_1584 rfl rfl rfl ?_
  refine Rn_st r_316_1585 rfl rfl rfl ?_
  rw [show w32 (0 + 2) = 2 from by decide]
  refine Rn_st (L' := [(2, 0), (2, 1), (2, 192), (0, 0)]) (S' := [(0, m1 0 2), (0, m1 0 1), (2, 192), (0, trV (m1 0 1) (m1 0 2) (m1 0 3))]) r_316_1586 rfl rfl rfl ?_
  refine Rn_st r_316_1587 rfl rfl rfl ?_
  refine Rn_st r_316_1588 rfl rfl rfl ?_
  refine Rn_st r_316_1589 rfl rfl rfl ?_
  refine Rn_st r_316_1590 rfl rfl rfl ?_
  rw [show w32 (0 + 3) = 3 from by decide]
  refine Rn_st (L' := [(2, 0), (2, 1), (2, 192), (0, 0)]) (S' := [(0, m1 0 3), (0, m1 0 2), (0, m1 0 1), (2, 192), (0, trV (m1 0 1) (m1 0 2) (m1 0 3))]) r_316_1591 rfl rfl rfl ?_
  refine Rn_cl (k := 209) (nx := 1595) (S2 := [(0, trV (m1 0 1) (m1 0 2) (m1 0 3)), (0, trV (m1 0 1) (m1 0 2) (m1 0 3))]) r_316_1592 rfl rfl rfl rfl rfl rfl (c_209 _ (m1 0 1) (m1 0 2) (m1 0 3)) rfl ?_
  refine Rn_ic (P := trV (m1 0 1) (m1 0 2) (m1 0 3) = trV (m1 0 1) (m1 0 2) (m1 0 3)) r_316_1595 rfl (fun _ => h) (fun z => absurd rfl z)
theorem disp {m1 : Mm} {r : AV × List Kd × Mm} (hd : iand (m1 0 0) 127 < 0 ∨ 69 < iand (m1 0 0) 127 → Rn 1000 316 2099 [(2, 0), (2, 1), (2, 192), (0, 0)] [] (shT 6) m1 r) (h : ¬ (iand (m1 0 0) 127 < 0 ∨ 69 < iand (m1 0 0) 127) → ∃ off, (#[295, 358, 381, 394, 417, 450, 483, 516, 529, 562, 585, 608, 631, 654, 677, 710, 743, 766, 789, 802, 815, 828, 851, 864, 877, 910, 933, 956, 979, 1002, 1015, 1038, 1051, 1074, 1087, 1110, 1123, 1136, 1159, 1172, 1185, 1208, 1231, 1244, 1267, 1280, 1303, 1326, 1349, 1372, 1395, 1428, 1471, 1524, 1567, 1591, 1614, 1637, 1670, 1693, 1706, 1719, 1752, 1785, 1818, 1841, 1864, 1887, 1930, 2003] : Array Int)[(iand (m1 0 0) 127 - 0).toNat]? = some off ∧ 0 ≤ (33 : Int) + off ∧ Rn 1000 316 ((33 : Int) + off).toNat [(2, 0), (2, 1), (2, 192), (0, 0)] [] (shT 6) m1 r) : Rn 1000 316 18 [(2, 0), (2, 1), (2, 192), (0, 0)] [] (shT 6) m1 r := by
  refine Rn_st r_316_18 rfl rfl rfl ?_
  refine Rn_st r_316_19 rfl rfl rfl ?_
  refine Rn_st (L' := [(2, 0), (2, 1), (2, 192), (0, 0)]) (S' := [(0, 6), (0, 0)]) r_316_20 rfl rfl rfl ?_
  refine Rn_st r_316_21 rfl rfl rfl ?_
  refine Rn_st r_316_23 rfl rfl rfl ?_
  rw [show w32 (6 - 6) = 0 from by decide]
  refine Rn_ic (P := 0 < 0) r_316_24 rfl (fun h24 => ?_) (fun h24 => ?_)
  · omega
  · refine Rn_st r_316_27 rfl rfl rfl ?_
    refine Rn_st r_316_28 rfl rfl rfl ?_
    refine Rn_st (L' := [(2, 0), (2, 1), (2, 192), (0, 0)]) (S' := [(0, m1 0 0)]) r_316_29 rfl rfl rfl ?_
    refine Rn_st r_316_30 rfl rfl rfl ?_
    refine Rn_st (L' := [(2, 0), (2, 1), (2, 192), (0, 0)]) (S' := [(0, iand (m1 0 0) 127)]) r_316_32 rfl rfl rfl ?_
    exact Rn_ts r_316_33 hd (by decide) h
theorem all_fin {m1 : Mm} (hm : Gd m1) (k : Nat) (hk : k < 70) : ∃ off, (#[295, 358, 381, 394, 417, 450, 483, 516, 529, 562, 585, 608, 631, 654, 677, 710, 743, 766, 789, 802, 815, 828, 851, 864, 877, 910, 933, 956, 979, 1002, 1015, 1038, 1051, 1074, 1087, 1110, 1123, 1136, 1159, 1172, 1185, 1208, 1231, 1244, 1267, 1280, 1303, 1326, 1349, 1372, 1395, 1428, 1471, 1524, 1567, 1591, 1614, 1637, 1670, 1693, 1706, 1719, 1752, 1785, 1818, 1841, 1864, 1887, 1930, 2003] : Array Int)[k]? = some off ∧ 0 ≤ (33 : Int) + off ∧ Fin ((33 : Int) + off).toNat m1 := by
  have h0 := fin_box hm pt_70 ok_70
  match k, hk with
  | 0, _ => exact ⟨295, rfl, by decide, fin_box hm pt_0 ok_0⟩
  | 1, _ => exact ⟨358, rfl, by decide, fin_box hm pt_1 ok_1⟩
  | 2, _ => exact ⟨381, rfl, by decide, fin_box hm pt_2 ok_2⟩
  | 3, _ => exact ⟨394, rfl, by decide, fin_box hm pt_3 ok_3⟩
  | 4, _ => exact ⟨417, rfl, by decide, fin_box hm pt_4 ok_4⟩
  | 5, _ => exact ⟨450, rfl, by decide, fin_box hm pt_5 ok_5⟩
  | 6, _ => exact ⟨483, rfl, by decide, fin_box hm pt_6 ok_6⟩
  | 7, _ => exact ⟨516, rfl, by decide, fin_box hm pt_7 ok_7⟩
  | 8, _ => exact ⟨529, rfl, by decide, fin_box hm pt_8 ok_8⟩
  | 9, _ => exact ⟨562, rfl, by decide, fin_box hm pt_9 ok_9⟩
  | 10, _ => exact ⟨585, rfl, by decide, fin_box hm pt_10 ok_10⟩
  | 11, _ => exact ⟨608, rfl, by decide, fin_box hm pt_11 ok_11⟩
  | 12, _ => exact ⟨631, rfl, by decide, fin_box hm pt_12 ok_12⟩
  | 13, _ => exact ⟨654, rfl, by decide, fin_box hm pt_13 ok_13⟩
  | 14, _ => exact ⟨677, rfl, by decide, fin_box hm pt_14 ok_14⟩
  | 15, _ => exact ⟨710, rfl, by decide, fin_box hm pt_15 ok_15⟩
  | 16, _ => exact ⟨743, rfl, by decide, fin_box hm pt_16 ok_16⟩
  | 17, _ => exact ⟨766, rfl, by decide, fin_box hm pt_17 ok_17⟩
  | 18, _ => exact ⟨789, rfl, by decide, fin_box hm pt_18 ok_18⟩
  | 19, _ => exact ⟨802, rfl, by decide, fin_box hm pt_19 ok_19⟩
  | 20, _ => exact ⟨815, rfl, by decide, fin_box hm pt_20 ok_20⟩
  | 21, _ => exact ⟨828, rfl, by decide, fin_box hm pt_21 ok_21⟩
  | 22, _ => exact ⟨851, rfl, by decide, fin_box hm pt_22 ok_22⟩
  | 23, _ => exact ⟨864, rfl, by decide, fin_box hm pt_23 ok_23⟩
  | 24, _ => exact ⟨877, rfl, by decide, fin_box hm pt_24 ok_24⟩
  | 25, _ => exact ⟨910, rfl, by decide, fin_box hm pt_25 ok_25⟩
  | 26, _ => exact ⟨933, rfl, by decide, fin_box hm pt_26 ok_26⟩
  | 27, _ => exact ⟨956, rfl, by decide, fin_box hm pt_27 ok_27⟩
  | 28, _ => exact ⟨979, rfl, by decide, fin_box hm pt_28 ok_28⟩
  | 29, _ => exact ⟨1002, rfl, by decide, fin_box hm pt_29 ok_29⟩
  | 30, _ => exact ⟨1015, rfl, by decide, fin_box hm pt_30 ok_30⟩
  | 31, _ => exact ⟨1038, rfl, by decide, fin_box hm pt_31 ok_31⟩
  | 32, _ => exact ⟨1051, rfl, by decide, fin_box hm pt_32 ok_32⟩
  | 33, _ => exact ⟨1074, rfl, by decide, fin_box hm pt_33 ok_33⟩
  | 34, _ => exact ⟨1087, rfl, by decide, fin_box hm pt_34 ok_34⟩
  | 35, _ => exact ⟨1110, rfl, by decide, fin_box hm pt_35 ok_35⟩
  | 36, _ => exact ⟨1123, rfl, by decide, fin_box hm pt_36 ok_36⟩
  | 37, _ => exact ⟨1136, rfl, by decide, fin_box hm pt_37 ok_37⟩
  | 38, _ => exact ⟨1159, rfl, by decide, fin_box hm pt_38 ok_38⟩
  | 39, _ => exact ⟨1172, rfl, by decide, fin_box hm pt_39 ok_39⟩
  | 40, _ => exact ⟨1185, rfl, by decide, fin_box hm pt_40 ok_40⟩
  | 41, _ => exact ⟨1208, rfl, by decide, fin_box hm pt_41 ok_41⟩
  | 42, _ => exact ⟨1231, rfl, by decide, fin_box hm pt_42 ok_42⟩
  | 43, _ => exact ⟨1244, rfl, by decide, fin_box hm pt_43 ok_43⟩
  | 44, _ => exact ⟨1267, rfl, by decide, fin_box hm pt_44 ok_44⟩
  | 45, _ => exact ⟨1280, rfl, by decide, fin_box hm pt_45 ok_45⟩
  | 46, _ => exact ⟨1303, rfl, by decide, fin_box hm pt_46 ok_46⟩
  | 47, _ => exact ⟨1326, rfl, by decide, fin_box hm pt_47 ok_47⟩
  | 48, _ => exact ⟨1349, rfl, by decide, fin_box hm pt_48 ok_48⟩
  | 49, _ => exact ⟨1372, rfl, by decide, fin_box hm pt_49 ok_49⟩
  | 50, _ => exact ⟨1395, rfl, by decide, fin_box hm pt_50 ok_50⟩
  | 51, _ => exact ⟨1428, rfl, by decide, fin_51 h0⟩
  | 52, _ => exact ⟨1471, rfl, by decide, fin_52 h0⟩
  | 53, _ => exact ⟨1524, rfl, by decide, fin_53 h0⟩
  | 54, _ => exact ⟨1567, rfl, by decide, fin_box hm pt_54 ok_54⟩
  | 55, _ => exact ⟨1591, rfl, by decide, fin_box hm pt_55 ok_55⟩
  | 56, _ => exact ⟨1614, rfl, by decide, fin_box hm pt_56 ok_56⟩
  | 57, _ => exact ⟨1637, rfl, by decide, fin_box hm pt_57 ok_57⟩
  | 58, _ => exact ⟨1670, rfl, by decide, fin_box hm pt_58 ok_58⟩
  | 59, _ => exact ⟨1693, rfl, by decide, fin_box hm pt_59 ok_59⟩
  | 60, _ => exact ⟨1706, rfl, by decide, fin_box hm pt_60 ok_60⟩
  | 61, _ => exact ⟨1719, rfl, by decide, fin_box hm pt_61 ok_61⟩
  | 62, _ => exact ⟨1752, rfl, by decide, fin_box hm pt_62 ok_62⟩
  | 63, _ => exact ⟨1785, rfl, by decide, fin_box hm pt_63 ok_63⟩
  | 64, _ => exact ⟨1818, rfl, by decide, fin_box hm pt_64 ok_64⟩
  | 65, _ => exact ⟨1841, rfl, by decide, fin_box hm pt_65 ok_65⟩
  | 66, _ => exact ⟨1864, rfl, by decide, fin_box hm pt_66 ok_66⟩
  | 67, _ => exact ⟨1887, rfl, by decide, fin_box hm pt_67 ok_67⟩
  | 68, _ => exact ⟨1930, rfl, by decide, fin_box hm pt_68 ok_68⟩
  | 69, _ => exact ⟨2003, rfl, by decide, fin_box hm pt_69 ok_69⟩
  | n + 70, h => omega
theorem okA_q : ∃ q, stA = some q ∧ q.1 = 18 ∧ q.2.1 = lH ∧ q.2.2.1 = [] ∧ q.2.2.2.1 = 213 ∧ allC (shT 6) q.2.2.2.2 213 = true := by
  have h := okA_t
  unfold okA at h
  split at h
  · rename_i q hq
    simp only [Bool.and_eq_true, decide_eq_true_eq] at h
    exact ⟨q, hq, h.1.1.1.1, h.1.1.1.2, h.1.1.2, h.1.2, h.2⟩
  · cases h
/-- the script as the abstract machine's -/
def scM (xs : Nat → Int32) : Mm := fun o i => if o = 0 then (xs i).toInt else 0
theorem gm0 (T : List Kd) (m : Mm) : gm T 1 (tc (fun _ => none) 8) m := by
  intro o kd _ i _
  unfold rd
  rw [tg_tc]
  exact gi_n
theorem run_6 (xs : Nat → Int32) : ∃ (n : Nat) (sh' : List Kd) (m' : Mm), run n 1000 316 0 (layp [(2, 0)] 4) [] [(100, 6)] (scM xs) = some ((0, 1), sh', m') ∧ sh'.length ≤ 600001 ∧ tot sh' ≤ 7302250 := by
  have hT : (shT 6).length ≤ 256 := by rw [shT_len]; decide
  obtain ⟨q, hq, k1, k2, k3, k4, k5⟩ := okA_q
  obtain ⟨q', ⟨g1, g2, g3, g4, g5, g6⟩, f1, f2⟩ := toI_ok hT _ _ _ _ _ _ _ _ _ hq (Nat.le_refl _) (layp [(2, 0)] 4) [] (scM xs) (gL_layp (L := [(2, one 0)]) ⟨⟨rfl, gi_1⟩, trivial⟩) trivial (by rw [shT_len]; decide) (gm0 _ _)
  obtain ⟨pc1, L1, S1, sh1, m1⟩ := q'
  obtain ⟨pc2, L2, S2, c2, M2⟩ := q
  dsimp only at k1 k2 k3 k4 k5 g1 g2 g3 g4 g5 g6 f1 f2
  subst k1 k2 k3 k4 g1 g4
  have e1 := gL_lH g2
  subst e1
  have e2 : S1 = [] := by
    match S1, g3 with
    | [], _ => rfl
    | _ :: _, g => exact g.elim
  subst e2
  rw [show (213 : Nat) = (shT 6).length from shT_len.symm, List.take_length] at f2
  have hG : Gd m1 := by
    refine ⟨fun o kd ho hk i hi => ?_, fun i => ?_⟩
    · have hl := (List.getElem?_eq_some_iff.mp hk).1
      rw [shT_len] at hl
      exact inc_ok (allC_ok 213 k5 o kd hl hk i hi) (g6 o kd (by unfold lk; rw [if_pos hl]; exact hk) i hi)
    · rw [f1]
      show in32 (if 0 = 0 then (xs i).toInt else 0)
      rw [if_pos rfl]
      exact i32_in _
  suffices h : Fin 18 m1 by
    obtain ⟨sh', m', ⟨n, h1⟩, h2, h3⟩ := h
    obtain ⟨n2, h4⟩ := f2 _ ⟨n, h1⟩
    exact ⟨n2, sh', m', h4, h2, h3⟩
  by_cases hx : iand (m1 0 0) 127 < 0 ∨ 69 < iand (m1 0 0) 127
  · obtain ⟨sh', m', h1, h2, h3⟩ := fin_box hG pt_70 ok_70
    exact ⟨sh', m', disp (fun _ => h1) (fun h => absurd hx h), h2, h3⟩
  · obtain ⟨off, a1, a2, sh', m', h1, h2, h3⟩ := all_fin hG (iand (m1 0 0) 127 - 0).toNat (by omega)
    exact ⟨sh', m', disp (fun h => absurd h hx) (fun _ => ⟨off, a1, a2, h1⟩), h2, h3⟩
def okS6 (L : Nat) : Bool := okR (runI (shT L) 3000 1000 316 0 (laypI [(2, one 0)] 4) [] 1 (tc (fun _ => none) 8))
set_option maxRecDepth 100000 in
set_option maxHeartbeats 0 in
theorem okS_0 : okS6 0 = true := by decide +kernel
set_option maxRecDepth 100000 in
set_option maxHeartbeats 0 in
theorem okS_1 : okS6 1 = true := by decide +kernel
set_option maxRecDepth 100000 in
set_option maxHeartbeats 0 in
theorem okS_2 : okS6 2 = true := by decide +kernel
set_option maxRecDepth 100000 in
set_option maxHeartbeats 0 in
theorem okS_3 : okS6 3 = true := by decide +kernel
set_option maxRecDepth 100000 in
set_option maxHeartbeats 0 in
theorem okS_4 : okS6 4 = true := by decide +kernel
set_option maxRecDepth 100000 in
set_option maxHeartbeats 0 in
theorem okS_5 : okS6 5 = true := by decide +kernel
theorem shL_len (L : Nat) : (shT L).length = 213 := shT_len
theorem shL_tot {L : Nat} : tot (shT L) = L + tot shR := rfl
set_option maxRecDepth 100000 in
theorem shR_tot : tot shR ≤ 7000000 := by decide +kernel
theorem run_s {L : Nat} (hL : L < 6) (xs : Nat → Int32) : ∃ (n : Nat) (sh' : List Kd) (m' : Mm), run n 1000 316 0 (layp [(2, 0)] 4) [] [(100, L)] (scM xs) = some ((0, 1), sh', m') ∧ sh'.length ≤ 600001 ∧ tot sh' ≤ 7302250 := by
  have hb : okS6 L = true := by
    match L, hL with
    | 0, _ => exact okS_0
    | 1, _ => exact okS_1
    | 2, _ => exact okS_2
    | 3, _ => exact okS_3
    | 4, _ => exact okS_4
    | 5, _ => exact okS_5
    | n + 6, h => omega
  have hT : (shT L).length ≤ 256 := by rw [shL_len]; decide
  unfold okS6 okR at hb
  split at hb
  · rename_i q hq
    obtain ⟨v, c', M'⟩ := q
    simp only [Bool.and_eq_true, decide_eq_true_eq] at hb
    obtain ⟨v', m', e1, e2, e3, -⟩ := runI_ok hT _ _ _ _ _ _ _ _ _ _ _ hq (layp [(2, 0)] 4) [] (scM xs) (gL_layp (L := [(2, one 0)]) ⟨⟨rfl, gi_1⟩, trivial⟩) trivial (by rw [shL_len]; decide) (gm0 _ _)
    have e4 : v' = (0, 1) := by
      obtain ⟨t, x⟩ := v'
      have g1 := e2.1
      have g2 := cst_ok hb.2 e2.2
      dsimp only at g1 g2
      rw [g1, g2, hb.1]
    rw [e4] at e1
    refine ⟨_, _, m', e1, ?_, ?_⟩
    · rw [tk_len e3]; rw [shL_len] at e3; omega
    · have := tot_take (shT L) c'
      have h2 := shR_tot
      rw [shL_tot] at this
      omega
  · cases hb
/-- YOUR PART: from the entry, for every script of at most 6 ints, the law comes to its end with true -/
theorem whole_start {p : Program} {e : Env} {s : State} {m : MethodId} {below : List Frame} {meth : Method} {c : Code} (l : Launch) (hflags : l.flags = flags0) {b L : Nat} {xs : Nat → Int32} (hL : L ≤ 6) (C0 : lw_At p s m meth c b L xs) : W p l e room_1 s m #[Value.ref b] below meth c s.heap [] 0 0 (lw_Z below #[Value.ref b] s) (entryFrame m ([Value.ref b] : List Value).toArray 4) := by
  have key : ∃ (n : Nat) (sh' : List Kd) (m' : Mm), run n 1000 316 0 (layp [(2, 0)] 4) [] [(100, L)] (scM xs) = some ((0, 1), sh', m') ∧ sh'.length ≤ 600001 ∧ tot sh' ≤ 7302250 := by
    by_cases h : L < 6
    · exact run_s h xs
    · obtain rfl : L = 6 := by omega
      exact run_6 xs
  obtain ⟨n, sh', m', h1, h2, h3⟩ := key
  exact run_law l C0 (mm := scM xs) (fun j _ => if_pos rfl) h1 h2 (by omega)
