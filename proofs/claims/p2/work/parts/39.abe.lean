/-! all contracts at once -/
def cersL : List (Nat × Cer) := cers_0 ++ (cers_1 ++ (cers_2 ++ (cers_3 ++ (cers_4 ++ (cers_5 ++ (cers_6 ++ (cers_7 ++ (cers_8 ++ (cers_9 ++ (cers_10 ++ (cers_11 ++ (cers_12 ++ (cers_13 ++ (cers_14 ++ (cers_15 ++ (cers_16 ++ (cers_17 ++ (cers_18 ++ (cers_19 ++ (cers_20))))))))))))))))))))
/-- the contracts that are proved by hand -/
def manL : List Nat := [6, 13, 16, 19, 22, 26, 29, 41, 48, 56, 165, 459, 460, 468, 560, 798, 829, 835, 836, 837, 839, 841, 861, 879, 880, 881, 882, 891, 912, 960, 961, 1025]
/-- the contracts that split an argument -/
def uniL : List (Nat × Nat × List Nat) := [(348, 1, [332, 344, 347]), (352, 1, [349, 350, 351]), (356, 1, [353, 354, 355]), (363, 1, [357, 361, 362]), (367, 1, [364, 365, 366]), (420, 1, [403, 417, 419]), (436, 1, [421, 434, 435]), (440, 3, [437, 438, 439]), (446, 3, [442, 444, 445]), (450, 3, [447, 448, 449]), (451, 1, [440, 446, 450]), (458, 1, [452, 456, 457]), (467, 1, [462, 464, 466]), (475, 2, [472, 473, 474]), (484, 2, [479, 481, 483]), (490, 2, [487, 488, 489]), (491, 1, [475, 484, 490]), (497, 2, [494, 495, 496]), (503, 2, [500, 501, 502]), (509, 2, [506, 507, 508]), (510, 1, [497, 503, 509]), (515, 2, [512, 513, 514]), (520, 2, [517, 518, 519]), (525, 2, [522, 523, 524]), (526, 1, [515, 520, 525]), (537, 2, [534, 535, 536]), (546, 2, [541, 542, 545]), (551, 2, [548, 549, 550]), (552, 1, [537, 546, 551]), (558, 1, [553, 556, 557]), (577, 1, [564, 565, 566, 567, 568, 569, 570, 571, 572, 573, 574, 575, 576]), (583, 1, [578, 579, 580, 581, 582]), (597, 1, [584, 585, 586, 587, 588, 589, 590, 591, 592, 593, 594, 595, 596]), (611, 1, [598, 599, 600, 601, 602, 603, 604, 605, 606, 607, 608, 609, 610]), (625, 1, [612, 613, 614, 615, 616, 617, 618, 619, 620, 621, 622, 623, 624]), (639, 1, [626, 627, 628, 629, 630, 631, 632, 633, 634, 635, 636, 637, 638]), (643, 1, [562, 641, 642]), (649, 1, [644, 647, 648]), (655, 1, [650, 651, 652, 653, 654]), (677, 1, [664, 665, 666, 667, 668, 669, 670, 671, 672, 673, 674, 675, 676]), (683, 1, [660, 678, 682]), (698, 1, [685, 686, 687, 688, 689, 690, 691, 692, 693, 694, 695, 696, 697]), (701, 1, [684, 699, 700]), (716, 1, [703, 704, 705, 706, 707, 708, 709, 710, 711, 712, 713, 714, 715]), (719, 1, [702, 717, 718]), (723, 2, [720, 721, 722]), (738, 1, [725, 726, 727, 728, 729, 730, 731, 732, 733, 734, 735, 736, 737]), (741, 2, [724, 739, 740]), (745, 2, [742, 743, 744]), (746, 1, [723, 741, 745]), (750, 2, [747, 748, 749]), (754, 2, [751, 752, 753]), (758, 2, [755, 756, 757]), (759, 1, [750, 754, 758]), (769, 1, [762, 765, 768]), (773, 1, [770, 771, 772]), (781, 1, [778, 779, 780]), (795, 1, [782, 783, 784, 785, 786, 787, 788, 789, 790, 791, 792, 793, 794]), (805, 1, [799, 803, 804]), (809, 1, [806, 807, 808]), (813, 1, [810, 811, 812]), (817, 1, [814, 815, 816]), (823, 1, [820, 821, 822]), (826, 1, [819, 824, 825]), (833, 1, [827, 831, 832]), (838, 1, [835, 836, 837]), (848, 1, [845, 846, 847]), (855, 1, [852, 853, 854]), (859, 1, [856, 857, 858]), (865, 1, [862, 863, 864]), (894, 1, [890, 892, 893]), (898, 2, [895, 896, 897]), (902, 2, [899, 900, 901]), (906, 2, [903, 904, 905]), (907, 1, [898, 902, 906]), (911, 1, [908, 909, 910]), (917, 2, [914, 915, 916]), (926, 2, [921, 923, 925]), (932, 2, [929, 930, 931]), (938, 2, [935, 936, 937]), (944, 2, [941, 942, 943]), (950, 2, [947, 948, 949]), (954, 2, [951, 952, 953]), (955, 1, [917, 926, 932, 938, 944, 950, 954]), (959, 1, [956, 957, 958]), (967, 3, [964, 965, 966]), (971, 3, [968, 969, 970]), (975, 3, [972, 973, 974]), (976, 2, [967, 971, 975]), (982, 3, [979, 980, 981]), (986, 3, [983, 984, 985]), (991, 3, [988, 989, 990]), (992, 2, [982, 986, 991]), (997, 3, [994, 995, 996]), (1001, 3, [998, 999, 1000]), (1005, 3, [1002, 1003, 1004]), (1006, 2, [997, 1001, 1005]), (1007, 1, [976, 992, 1006]), (1011, 2, [1008, 1009, 1010]), (1019, 2, [1013, 1016, 1018]), (1023, 2, [1020, 1021, 1022]), (1024, 1, [1011, 1019, 1023])]
set_option maxRecDepth 100000 in
set_option maxHeartbeats 0 in
theorem uni_all : uniL.all (fun e => okU conL e.1 e.2.1 e.2.2) = true := by decide +kernel
set_option maxRecDepth 100000 in
set_option maxHeartbeats 0 in
theorem cers_all : (List.range 1026).all (fun k => manL.contains k || (cersL.map (fun e => e.1)).contains k || (uniL.map (fun e => e.1)).contains k) = true := by decide +kernel
set_option maxRecDepth 100000 in
set_option maxHeartbeats 0 in
theorem conL_len : conL.length = 1026 := by decide +kernel
theorem cers_ok : ∀ e ∈ cersL, okC conL e.1 e.2 = true := by
  intro e he
  unfold cersL at he
  simp only [List.mem_append] at he
  rcases he with he | he | he | he | he | he | he | he | he | he | he | he | he | he | he | he | he | he | he | he | he
  · exact List.all_eq_true.mp ckc_0 e he
  · exact List.all_eq_true.mp ckc_1 e he
  · exact List.all_eq_true.mp ckc_2 e he
  · exact List.all_eq_true.mp ckc_3 e he
  · exact List.all_eq_true.mp ckc_4 e he
  · exact List.all_eq_true.mp ckc_5 e he
  · exact List.all_eq_true.mp ckc_6 e he
  · exact List.all_eq_true.mp ckc_7 e he
  · exact List.all_eq_true.mp ckc_8 e he
  · exact List.all_eq_true.mp ckc_9 e he
  · exact List.all_eq_true.mp ckc_10 e he
  · exact List.all_eq_true.mp ckc_11 e he
  · exact List.all_eq_true.mp ckc_12 e he
  · exact List.all_eq_true.mp ckc_13 e he
  · exact List.all_eq_true.mp ckc_14 e he
  · exact List.all_eq_true.mp ckc_15 e he
  · exact List.all_eq_true.mp ckc_16 e he
  · exact List.all_eq_true.mp ckc_17 e he
  · exact List.all_eq_true.mp ckc_18 e he
  · exact List.all_eq_true.mp ckc_19 e he
  · exact List.all_eq_true.mp ckc_20 e he
theorem con_all {T : List Kd} (hT : ∀ o, 0 < o → o < 213 → T[o]? = some (tyK (tyO o))) (hman : ∀ k, k ∈ manL → (∀ k', k' < k → ConOK conL T k') → ConOK conL T k) : ∀ k, ConOK conL T k := by
  intro k
  induction k using Nat.strongRecOn with
  | _ k ih =>
    by_cases hk : k < 1026
    · have h := List.all_eq_true.mp cers_all k (List.mem_range.mpr hk)
      rw [Bool.or_eq_true, Bool.or_eq_true] at h
      rcases h with (h | h) | h
      · exact hman k (List.contains_iff_mem.mp h) ih
      · obtain ⟨e, he, hk2⟩ := List.mem_map.mp (List.contains_iff_mem.mp h)
        have := okC_ok (C := conL) (T := T) hT (cers_ok e he) (by rw [hk2]; exact ih)
        rw [hk2] at this
        exact this
      · obtain ⟨e, he, hk2⟩ := List.mem_map.mp (List.contains_iff_mem.mp h)
        have := okU_ok (C := conL) (T := T) (List.all_eq_true.mp uni_all e he) (by rw [hk2]; exact ih)
        rw [hk2] at this
        exact this
    · intro c hc
      have := (List.getElem?_eq_some_iff.mp hc).1
      rw [conL_len] at this
      omega
