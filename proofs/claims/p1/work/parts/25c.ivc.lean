/-! the boxes, checked -/
set_option maxRecDepth 100000 in
set_option maxHeartbeats 0 in
theorem ok_67_0 : okP 1920 [fl, ((-2147483648), (-1))] [[((-2147483648), (-1)), (0, 0), (1, 3), (4, 4), (5, 2147483647)], [((-2147483648), (-1)), (0, 0), (1, 59), (60, 60), (61, 2147483647)], [fl], [fl]] = true := by decide +kernel
set_option maxRecDepth 100000 in
set_option maxHeartbeats 0 in
theorem ok_67_1 : okP 1920 [fl, (0, 0)] [[((-2147483648), (-1)), (0, 0), (1, 3), (4, 4), (5, 2147483647)], [((-2147483648), (-1)), (0, 0), (1, 59), (60, 60), (61, 2147483647)], [fl], [fl]] = true := by decide +kernel
set_option maxRecDepth 100000 in
set_option maxHeartbeats 0 in
theorem ok_67_2 : okP 1920 [fl, (1, 1)] [[((-2147483648), (-1)), (0, 0), (1, 3), (4, 4), (5, 2147483647)], [((-2147483648), (-1)), (0, 0), (1, 59), (60, 60), (61, 2147483647)], [fl], [fl]] = true := by decide +kernel
set_option maxRecDepth 100000 in
set_option maxHeartbeats 0 in
theorem ok_67_3 : okP 1920 [fl, (2, 2)] [[((-2147483648), (-1)), (0, 0), (1, 3), (4, 4), (5, 2147483647)], [((-2147483648), (-1)), (0, 0), (1, 59), (60, 60), (61, 2147483647)], [fl], [fl]] = true := by decide +kernel
set_option maxRecDepth 100000 in
set_option maxHeartbeats 0 in
theorem ok_67_4 : okP 1920 [fl, (3, 3)] [[((-2147483648), (-1)), (0, 0), (1, 3), (4, 4), (5, 2147483647)], [((-2147483648), (-1)), (0, 0), (1, 59), (60, 60), (61, 2147483647)], [fl], [fl]] = true := by decide +kernel
set_option maxRecDepth 100000 in
set_option maxHeartbeats 0 in
theorem ok_67_5 : okP 1920 [fl, (4, 4)] [[((-2147483648), (-1)), (0, 0), (1, 3), (4, 4), (5, 2147483647)], [((-2147483648), (-1)), (0, 0), (1, 59), (60, 60), (61, 2147483647)], [fl], [fl]] = true := by decide +kernel
set_option maxRecDepth 100000 in
set_option maxHeartbeats 0 in
theorem ok_67_6 : okP 1920 [fl, (5, 2147483647)] [[((-2147483648), (-1)), (0, 0), (1, 3), (4, 4), (5, 2147483647)], [((-2147483648), (-1)), (0, 0), (1, 59), (60, 60), (61, 2147483647)], [fl], [fl]] = true := by decide +kernel
theorem ok_67 : okP 1920 [fl] [[((-2147483648), (-1)), (0, 0), (1, 1), (2, 2), (3, 3), (4, 4), (5, 2147483647)], [((-2147483648), (-1)), (0, 0), (1, 3), (4, 4), (5, 2147483647)], [((-2147483648), (-1)), (0, 0), (1, 59), (60, 60), (61, 2147483647)], [fl], [fl]] = true := by
  show ([((-2147483648), (-1)), (0, 0), (1, 1), (2, 2), (3, 3), (4, 4), (5, 2147483647)]).all _ = true
  simp only [List.all_cons, List.all_nil, Bool.and_true, Bool.and_eq_true]
  exact ⟨ok_67_0, ok_67_1, ok_67_2, ok_67_3, ok_67_4, ok_67_5, ok_67_6⟩
theorem pt_67 : pts [[((-2147483648), (-1)), (0, 0), (1, 1), (2, 2), (3, 3), (4, 4), (5, 2147483647)], [((-2147483648), (-1)), (0, 0), (1, 3), (4, 4), (5, 2147483647)], [((-2147483648), (-1)), (0, 0), (1, 59), (60, 60), (61, 2147483647)], [fl], [fl]] = true := by decide +kernel
