/-! the boxes, checked -/
set_option maxRecDepth 100000 in
set_option maxHeartbeats 0 in
theorem ok_35 : okP 1143 [fl] [[fl], [fl], [fl], [fl], [fl]] = true := by decide +kernel
theorem pt_35 : pts [[fl], [fl], [fl], [fl], [fl]] = true := by decide +kernel
set_option maxRecDepth 100000 in
set_option maxHeartbeats 0 in
theorem ok_36 : okP 1156 [fl] [[fl], [fl], [fl], [fl], [fl]] = true := by decide +kernel
theorem pt_36 : pts [[fl], [fl], [fl], [fl], [fl]] = true := by decide +kernel
set_option maxRecDepth 100000 in
set_option maxHeartbeats 0 in
theorem ok_37 : okP 1169 [fl] [[((-2147483648), (-1)), (0, 0), (1, 2147483647)], [fl], [fl], [fl], [fl]] = true := by decide +kernel
theorem pt_37 : pts [[((-2147483648), (-1)), (0, 0), (1, 2147483647)], [fl], [fl], [fl], [fl]] = true := by decide +kernel
set_option maxRecDepth 100000 in
set_option maxHeartbeats 0 in
theorem ok_38 : okP 1192 [fl] [[fl], [fl], [fl], [fl], [fl]] = true := by decide +kernel
theorem pt_38 : pts [[fl], [fl], [fl], [fl], [fl]] = true := by decide +kernel
set_option maxRecDepth 100000 in
set_option maxHeartbeats 0 in
theorem ok_39 : okP 1205 [fl] [[fl], [fl], [fl], [fl], [fl]] = true := by decide +kernel
theorem pt_39 : pts [[fl], [fl], [fl], [fl], [fl]] = true := by decide +kernel
set_option maxRecDepth 100000 in
set_option maxHeartbeats 0 in
theorem ok_40 : okP 1218 [fl] [[((-2147483648), (-1)), (0, 0), (1, 2147483647)], [fl], [fl], [fl], [fl]] = true := by decide +kernel
theorem pt_40 : pts [[((-2147483648), (-1)), (0, 0), (1, 2147483647)], [fl], [fl], [fl], [fl]] = true := by decide +kernel
set_option maxRecDepth 100000 in
set_option maxHeartbeats 0 in
theorem ok_41 : okP 1241 [fl] [[((-2147483648), (-1)), (0, 0), (1, 2147483647)], [fl], [fl], [fl], [fl]] = true := by decide +kernel
theorem pt_41 : pts [[((-2147483648), (-1)), (0, 0), (1, 2147483647)], [fl], [fl], [fl], [fl]] = true := by decide +kernel
set_option maxRecDepth 100000 in
set_option maxHeartbeats 0 in
theorem ok_42 : okP 1264 [fl] [[fl], [fl], [fl], [fl], [fl]] = true := by decide +kernel
theorem pt_42 : pts [[fl], [fl], [fl], [fl], [fl]] = true := by decide +kernel
set_option maxRecDepth 100000 in
set_option maxHeartbeats 0 in
theorem ok_43 : okP 1277 [fl] [[((-2147483648), (-1)), (0, 0), (1, 2147483647)], [fl], [fl], [fl], [fl]] = true := by decide +kernel
theorem pt_43 : pts [[((-2147483648), (-1)), (0, 0), (1, 2147483647)], [fl], [fl], [fl], [fl]] = true := by decide +kernel
set_option maxRecDepth 100000 in
set_option maxHeartbeats 0 in
theorem ok_44 : okP 1300 [fl] [[fl], [fl], [fl], [fl], [fl]] = true := by decide +kernel
theorem pt_44 : pts [[fl], [fl], [fl], [fl], [fl]] = true := by decide +kernel
set_option maxRecDepth 100000 in
set_option maxHeartbeats 0 in
theorem ok_45 : okP 1313 [fl] [[((-2147483648), (-1)), (0, 0), (1, 2), (3, 3), (4, 2147483647)], [fl], [fl], [fl], [fl]] = true := by decide +kernel
theorem pt_45 : pts [[((-2147483648), (-1)), (0, 0), (1, 2), (3, 3), (4, 2147483647)], [fl], [fl], [fl], [fl]] = true := by decide +kernel
set_option maxRecDepth 100000 in
set_option maxHeartbeats 0 in
theorem ok_46 : okP 1336 [fl] [[((-2147483648), (-1)), (0, 0), (1, 2), (3, 3), (4, 2147483647)], [fl], [fl], [fl], [fl]] = true := by decide +kernel
theorem pt_46 : pts [[((-2147483648), (-1)), (0, 0), (1, 2), (3, 3), (4, 2147483647)], [fl], [fl], [fl], [fl]] = true := by decide +kernel
set_option maxRecDepth 100000 in
set_option maxHeartbeats 0 in
theorem ok_47 : okP 1359 [fl] [[((-2147483648), (-1)), (0, 0), (1, 2), (3, 3), (4, 2147483647)], [fl], [fl], [fl], [fl]] = true := by decide +kernel
theorem pt_47 : pts [[((-2147483648), (-1)), (0, 0), (1, 2), (3, 3), (4, 2147483647)], [fl], [fl], [fl], [fl]] = true := by decide +kernel
set_option maxRecDepth 100000 in
set_option maxHeartbeats 0 in
theorem ok_48 : okP 1382 [fl] [[((-2147483648), (-1)), (0, 0), (1, 2), (3, 3), (4, 2147483647)], [fl], [fl], [fl], [fl]] = true := by decide +kernel
theorem pt_48 : pts [[((-2147483648), (-1)), (0, 0), (1, 2), (3, 3), (4, 2147483647)], [fl], [fl], [fl], [fl]] = true := by decide +kernel
set_option maxRecDepth 100000 in
set_option maxHeartbeats 0 in
theorem ok_49 : okP 1405 [fl] [[((-2147483648), (-1)), (0, 0), (1, 2), (3, 3), (4, 2147483647)], [fl], [fl], [fl], [fl]] = true := by decide +kernel
theorem pt_49 : pts [[((-2147483648), (-1)), (0, 0), (1, 2), (3, 3), (4, 2147483647)], [fl], [fl], [fl], [fl]] = true := by decide +kernel
set_option maxRecDepth 100000 in
set_option maxHeartbeats 0 in
theorem ok_54 : okP 1600 [fl] [[fl], [fl], [fl], [fl], [fl]] = true := by decide +kernel
theorem pt_54 : pts [[fl], [fl], [fl], [fl], [fl]] = true := by decide +kernel
set_option maxRecDepth 100000 in
set_option maxHeartbeats 0 in
theorem ok_55 : okP 1624 [fl] [[fl], [fl], [fl], [fl], [fl]] = true := by decide +kernel
theorem pt_55 : pts [[fl], [fl], [fl], [fl], [fl]] = true := by decide +kernel
set_option maxRecDepth 100000 in
set_option maxHeartbeats 0 in
theorem ok_56 : okP 1647 [fl] [[((-2147483648), (-1)), (0, 0), (1, 2147483647)], [fl], [fl], [fl], [fl]] = true := by decide +kernel
theorem pt_56 : pts [[((-2147483648), (-1)), (0, 0), (1, 2147483647)], [fl], [fl], [fl], [fl]] = true := by decide +kernel
set_option maxRecDepth 100000 in
set_option maxHeartbeats 0 in
theorem ok_57 : okP 1670 [fl] [[((-2147483648), (-1)), (0, 0), (1, 2147483647)], [fl], [fl], [fl], [fl]] = true := by decide +kernel
theorem pt_57 : pts [[((-2147483648), (-1)), (0, 0), (1, 2147483647)], [fl], [fl], [fl], [fl]] = true := by decide +kernel
set_option maxRecDepth 100000 in
set_option maxHeartbeats 0 in
theorem ok_58 : okP 1703 [fl] [[((-2147483648), (-1)), (0, 0), (1, 2147483647)], [fl], [fl], [fl], [fl]] = true := by decide +kernel
theorem pt_58 : pts [[((-2147483648), (-1)), (0, 0), (1, 2147483647)], [fl], [fl], [fl], [fl]] = true := by decide +kernel
set_option maxRecDepth 100000 in
set_option maxHeartbeats 0 in
theorem ok_59 : okP 1726 [fl] [[fl], [fl], [fl], [fl], [fl]] = true := by decide +kernel
theorem pt_59 : pts [[fl], [fl], [fl], [fl], [fl]] = true := by decide +kernel
set_option maxRecDepth 100000 in
set_option maxHeartbeats 0 in
theorem ok_60 : okP 1739 [fl] [[fl], [fl], [fl], [fl], [fl]] = true := by decide +kernel
theorem pt_60 : pts [[fl], [fl], [fl], [fl], [fl]] = true := by decide +kernel
set_option maxRecDepth 100000 in
set_option maxHeartbeats 0 in
theorem ok_61 : okP 1752 [fl] [[fl], [fl], [fl], [fl], [fl]] = true := by decide +kernel
theorem pt_61 : pts [[fl], [fl], [fl], [fl], [fl]] = true := by decide +kernel
set_option maxRecDepth 100000 in
set_option maxHeartbeats 0 in
theorem ok_62 : okP 1785 [fl] [[fl], [fl], [fl], [fl], [fl]] = true := by decide +kernel
theorem pt_62 : pts [[fl], [fl], [fl], [fl], [fl]] = true := by decide +kernel
set_option maxRecDepth 100000 in
set_option maxHeartbeats 0 in
theorem ok_63 : okP 1818 [fl] [[((-2147483648), (-1)), (0, 0), (1, 2147483647)], [fl], [fl], [fl], [fl]] = true := by decide +kernel
theorem pt_63 : pts [[((-2147483648), (-1)), (0, 0), (1, 2147483647)], [fl], [fl], [fl], [fl]] = true := by decide +kernel
set_option maxRecDepth 100000 in
set_option maxHeartbeats 0 in
theorem ok_64 : okP 1851 [fl] [[((-2147483648), (-1)), (0, 0), (1, 1), (2, 2), (3, 3), (4, 4), (5, 5), (6, 6), (7, 7), (8, 8), (9, 9), (10, 10), (11, 11), (12, 2147483647)], [fl], [fl], [fl], [fl]] = true := by decide +kernel
theorem pt_64 : pts [[((-2147483648), (-1)), (0, 0), (1, 1), (2, 2), (3, 3), (4, 4), (5, 5), (6, 6), (7, 7), (8, 8), (9, 9), (10, 10), (11, 11), (12, 2147483647)], [fl], [fl], [fl], [fl]] = true := by decide +kernel
set_option maxRecDepth 100000 in
set_option maxHeartbeats 0 in
theorem ok_65 : okP 1874 [fl] [[((-2147483648), (-1)), (0, 0), (1, 1), (2, 2), (3, 3), (4, 2147483647)], [fl], [fl], [fl], [fl]] = true := by decide +kernel
theorem pt_65 : pts [[((-2147483648), (-1)), (0, 0), (1, 1), (2, 2), (3, 3), (4, 2147483647)], [fl], [fl], [fl], [fl]] = true := by decide +kernel
set_option maxRecDepth 100000 in
set_option maxHeartbeats 0 in
theorem ok_66 : okP 1897 [fl] [[((-2147483648), (-1)), (0, 0), (1, 1), (2, 2), (3, 2147483647)], [fl], [fl], [fl], [fl]] = true := by decide +kernel
theorem pt_66 : pts [[((-2147483648), (-1)), (0, 0), (1, 1), (2, 2), (3, 2147483647)], [fl], [fl], [fl], [fl]] = true := by decide +kernel
set_option maxRecDepth 100000 in
set_option maxHeartbeats 0 in
theorem ok_68 : okP 1963 [fl] [[((-2147483648), (-1)), (0, 0), (1, 1), (2, 2), (3, 3), (4, 4), (5, 2147483647)], [fl], [fl], [fl], [fl]] = true := by decide +kernel
theorem pt_68 : pts [[((-2147483648), (-1)), (0, 0), (1, 1), (2, 2), (3, 3), (4, 4), (5, 2147483647)], [fl], [fl], [fl], [fl]] = true := by decide +kernel
set_option maxRecDepth 100000 in
set_option maxHeartbeats 0 in
theorem ok_69 : okP 2036 [fl] [[((-2147483648), (-1)), (0, 0), (1, 1), (2, 2), (3, 3), (4, 4), (5, 2147483647)], [fl], [((-2147483648), (-1)), (0, 0), (1, 1), (2, 2), (3, 3), (4, 4), (5, 2147483647)], [fl], [fl]] = true := by decide +kernel
theorem pt_69 : pts [[((-2147483648), (-1)), (0, 0), (1, 1), (2, 2), (3, 3), (4, 4), (5, 2147483647)], [fl], [((-2147483648), (-1)), (0, 0), (1, 1), (2, 2), (3, 3), (4, 4), (5, 2147483647)], [fl], [fl]] = true := by decide +kernel
set_option maxRecDepth 100000 in
set_option maxHeartbeats 0 in
theorem ok_70 : okP 2099 [fl] [[fl], [fl], [fl], [fl], [fl]] = true := by decide +kernel
theorem pt_70 : pts [[fl], [fl], [fl], [fl], [fl]] = true := by decide +kernel
