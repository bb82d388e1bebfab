/-! the boxes, checked -/
set_option maxRecDepth 100000 in
set_option maxHeartbeats 0 in
theorem ok_0 : okP 328 [fl] [[fl], [fl], [fl], [fl], [fl]] = true := by decide +kernel
theorem pt_0 : pts [[fl], [fl], [fl], [fl], [fl]] = true := by decide +kernel
set_option maxRecDepth 100000 in
set_option maxHeartbeats 0 in
theorem ok_1 : okP 391 [fl] [[((-2147483648), (-1)), (0, 0), (1, 2147483647)], [fl], [fl], [fl], [fl]] = true := by decide +kernel
theorem pt_1 : pts [[((-2147483648), (-1)), (0, 0), (1, 2147483647)], [fl], [fl], [fl], [fl]] = true := by decide +kernel
set_option maxRecDepth 100000 in
set_option maxHeartbeats 0 in
theorem ok_2 : okP 414 [fl] [[fl], [fl], [fl], [fl], [fl]] = true := by decide +kernel
theorem pt_2 : pts [[fl], [fl], [fl], [fl], [fl]] = true := by decide +kernel
set_option maxRecDepth 100000 in
set_option maxHeartbeats 0 in
theorem ok_3 : okP 427 [fl] [[((-2147483648), (-1)), (0, 0), (1, 1), (2, 2147483647)], [fl], [fl], [fl], [fl]] = true := by decide +kernel
theorem pt_3 : pts [[((-2147483648), (-1)), (0, 0), (1, 1), (2, 2147483647)], [fl], [fl], [fl], [fl]] = true := by decide +kernel
set_option maxRecDepth 100000 in
set_option maxHeartbeats 0 in
theorem ok_4 : okP 450 [fl] [[((-2147483648), (-1)), (0, 0), (1, 2147483647)], [fl], [fl], [fl], [fl]] = true := by decide +kernel
theorem pt_4 : pts [[((-2147483648), (-1)), (0, 0), (1, 2147483647)], [fl], [fl], [fl], [fl]] = true := by decide +kernel
set_option maxRecDepth 100000 in
set_option maxHeartbeats 0 in
theorem ok_5 : okP 483 [fl] [[((-2147483648), (-1)), (0, 0), (1, 2147483647)], [fl], [fl], [fl], [fl]] = true := by decide +kernel
theorem pt_5 : pts [[((-2147483648), (-1)), (0, 0), (1, 2147483647)], [fl], [fl], [fl], [fl]] = true := by decide +kernel
set_option maxRecDepth 100000 in
set_option maxHeartbeats 0 in
theorem ok_6 : okP 516 [fl] [[((-2147483648), (-1)), (0, 0), (1, 2147483647)], [fl], [fl], [fl], [fl]] = true := by decide +kernel
theorem pt_6 : pts [[((-2147483648), (-1)), (0, 0), (1, 2147483647)], [fl], [fl], [fl], [fl]] = true := by decide +kernel
set_option maxRecDepth 100000 in
set_option maxHeartbeats 0 in
theorem ok_7 : okP 549 [fl] [[fl], [fl], [fl], [fl], [fl]] = true := by decide +kernel
theorem pt_7 : pts [[fl], [fl], [fl], [fl], [fl]] = true := by decide +kernel
set_option maxRecDepth 100000 in
set_option maxHeartbeats 0 in
theorem ok_8 : okP 562 [fl] [[((-2147483648), (-1)), (0, 0), (1, 2147483647)], [fl], [fl], [fl], [fl]] = true := by decide +kernel
theorem pt_8 : pts [[((-2147483648), (-1)), (0, 0), (1, 2147483647)], [fl], [fl], [fl], [fl]] = true := by decide +kernel
set_option maxRecDepth 100000 in
set_option maxHeartbeats 0 in
theorem ok_9 : okP 595 [fl] [[((-2147483648), (-1)), (0, 0), (1, 2147483647)], [fl], [fl], [fl], [fl]] = true := by decide +kernel
theorem pt_9 : pts [[((-2147483648), (-1)), (0, 0), (1, 2147483647)], [fl], [fl], [fl], [fl]] = true := by decide +kernel
set_option maxRecDepth 100000 in
set_option maxHeartbeats 0 in
theorem ok_10 : okP 618 [fl] [[((-2147483648), (-1)), (0, 0), (1, 2147483647)], [fl], [fl], [fl], [fl]] = true := by decide +kernel
theorem pt_10 : pts [[((-2147483648), (-1)), (0, 0), (1, 2147483647)], [fl], [fl], [fl], [fl]] = true := by decide +kernel
set_option maxRecDepth 100000 in
set_option maxHeartbeats 0 in
theorem ok_11 : okP 641 [fl] [[fl], [fl], [fl], [fl], [fl]] = true := by decide +kernel
theorem pt_11 : pts [[fl], [fl], [fl], [fl], [fl]] = true := by decide +kernel
set_option maxRecDepth 100000 in
set_option maxHeartbeats 0 in
theorem ok_12 : okP 664 [fl] [[fl], [fl], [fl], [fl], [fl]] = true := by decide +kernel
theorem pt_12 : pts [[fl], [fl], [fl], [fl], [fl]] = true := by decide +kernel
set_option maxRecDepth 100000 in
set_option maxHeartbeats 0 in
theorem ok_13 : okP 687 [fl] [[fl], [fl], [fl], [fl], [fl]] = true := by decide +kernel
theorem pt_13 : pts [[fl], [fl], [fl], [fl], [fl]] = true := by decide +kernel
set_option maxRecDepth 100000 in
set_option maxHeartbeats 0 in
theorem ok_14 : okP 710 [fl] [[((-2147483648), (-1)), (0, 0), (1, 2147483647)], [fl], [fl], [fl], [fl]] = true := by decide +kernel
theorem pt_14 : pts [[((-2147483648), (-1)), (0, 0), (1, 2147483647)], [fl], [fl], [fl], [fl]] = true := by decide +kernel
set_option maxRecDepth 100000 in
set_option maxHeartbeats 0 in
theorem ok_15 : okP 743 [fl] [[((-2147483648), (-1)), (0, 0), (1, 2147483647)], [fl], [fl], [fl], [fl]] = true := by decide +kernel
theorem pt_15 : pts [[((-2147483648), (-1)), (0, 0), (1, 2147483647)], [fl], [fl], [fl], [fl]] = true := by decide +kernel
set_option maxRecDepth 100000 in
set_option maxHeartbeats 0 in
theorem ok_16 : okP 776 [fl] [[((-2147483648), (-1)), (0, 0), (1, 2147483647)], [fl], [fl], [fl], [fl]] = true := by decide +kernel
theorem pt_16 : pts [[((-2147483648), (-1)), (0, 0), (1, 2147483647)], [fl], [fl], [fl], [fl]] = true := by decide +kernel
set_option maxRecDepth 100000 in
set_option maxHeartbeats 0 in
theorem ok_17 : okP 799 [fl] [[((-2147483648), (-1)), (0, 0), (1, 2147483647)], [fl], [fl], [fl], [fl]] = true := by decide +kernel
theorem pt_17 : pts [[((-2147483648), (-1)), (0, 0), (1, 2147483647)], [fl], [fl], [fl], [fl]] = true := by decide +kernel
set_option maxRecDepth 100000 in
set_option maxHeartbeats 0 in
theorem ok_18 : okP 822 [fl] [[fl], [fl], [fl], [fl], [fl]] = true := by decide +kernel
theorem pt_18 : pts [[fl], [fl], [fl], [fl], [fl]] = true := by decide +kernel
set_option maxRecDepth 100000 in
set_option maxHeartbeats 0 in
theorem ok_19 : okP 835 [fl] [[fl], [fl], [fl], [fl], [fl]] = true := by decide +kernel
theorem pt_19 : pts [[fl], [fl], [fl], [fl], [fl]] = true := by decide +kernel
set_option maxRecDepth 100000 in
set_option maxHeartbeats 0 in
theorem ok_20 : okP 848 [fl] [[fl], [fl], [fl], [fl], [fl]] = true := by decide +kernel
theorem pt_20 : pts [[fl], [fl], [fl], [fl], [fl]] = true := by decide +kernel
set_option maxRecDepth 100000 in
set_option maxHeartbeats 0 in
theorem ok_21 : okP 861 [fl] [[((-2147483648), (-1)), (0, 0), (1, 2147483647)], [fl], [fl], [fl], [fl]] = true := by decide +kernel
theorem pt_21 : pts [[((-2147483648), (-1)), (0, 0), (1, 2147483647)], [fl], [fl], [fl], [fl]] = true := by decide +kernel
set_option maxRecDepth 100000 in
set_option maxHeartbeats 0 in
theorem ok_22 : okP 884 [fl] [[fl], [fl], [fl], [fl], [fl]] = true := by decide +kernel
theorem pt_22 : pts [[fl], [fl], [fl], [fl], [fl]] = true := by decide +kernel
set_option maxRecDepth 100000 in
set_option maxHeartbeats 0 in
theorem ok_23 : okP 897 [fl] [[fl], [fl], [fl], [fl], [fl]] = true := by decide +kernel
theorem pt_23 : pts [[fl], [fl], [fl], [fl], [fl]] = true := by decide +kernel
set_option maxRecDepth 100000 in
set_option maxHeartbeats 0 in
theorem ok_24 : okP 910 [fl] [[((-2147483648), (-1)), (0, 0), (1, 2147483647)], [fl], [fl], [fl], [fl]] = true := by decide +kernel
theorem pt_24 : pts [[((-2147483648), (-1)), (0, 0), (1, 2147483647)], [fl], [fl], [fl], [fl]] = true := by decide +kernel
set_option maxRecDepth 100000 in
set_option maxHeartbeats 0 in
theorem ok_25 : okP 943 [fl] [[((-2147483648), (-1)), (0, 0), (1, 2147483647)], [fl], [fl], [fl], [fl]] = true := by decide +kernel
theorem pt_25 : pts [[((-2147483648), (-1)), (0, 0), (1, 2147483647)], [fl], [fl], [fl], [fl]] = true := by decide +kernel
set_option maxRecDepth 100000 in
set_option maxHeartbeats 0 in
theorem ok_26 : okP 966 [fl] [[((-2147483648), (-1)), (0, 0), (1, 2147483647)], [fl], [fl], [fl], [fl]] = true := by decide +kernel
theorem pt_26 : pts [[((-2147483648), (-1)), (0, 0), (1, 2147483647)], [fl], [fl], [fl], [fl]] = true := by decide +kernel
set_option maxRecDepth 100000 in
set_option maxHeartbeats 0 in
theorem ok_27 : okP 989 [fl] [[fl], [fl], [fl], [fl], [fl]] = true := by decide +kernel
theorem pt_27 : pts [[fl], [fl], [fl], [fl], [fl]] = true := by decide +kernel
set_option maxRecDepth 100000 in
set_option maxHeartbeats 0 in
theorem ok_28 : okP 1012 [fl] [[((-2147483648), (-1)), (0, 0), (1, 2147483647)], [fl], [fl], [fl], [fl]] = true := by decide +kernel
theorem pt_28 : pts [[((-2147483648), (-1)), (0, 0), (1, 2147483647)], [fl], [fl], [fl], [fl]] = true := by decide +kernel
set_option maxRecDepth 100000 in
set_option maxHeartbeats 0 in
theorem ok_29 : okP 1035 [fl] [[fl], [fl], [fl], [fl], [fl]] = true := by decide +kernel
theorem pt_29 : pts [[fl], [fl], [fl], [fl], [fl]] = true := by decide +kernel
set_option maxRecDepth 100000 in
set_option maxHeartbeats 0 in
theorem ok_30 : okP 1048 [fl] [[((-2147483648), (-1)), (0, 0), (1, 2147483647)], [fl], [fl], [fl], [fl]] = true := by decide +kernel
theorem pt_30 : pts [[((-2147483648), (-1)), (0, 0), (1, 2147483647)], [fl], [fl], [fl], [fl]] = true := by decide +kernel
set_option maxRecDepth 100000 in
set_option maxHeartbeats 0 in
theorem ok_31 : okP 1071 [fl] [[fl], [fl], [fl], [fl], [fl]] = true := by decide +kernel
theorem pt_31 : pts [[fl], [fl], [fl], [fl], [fl]] = true := by decide +kernel
set_option maxRecDepth 100000 in
set_option maxHeartbeats 0 in
theorem ok_32 : okP 1084 [fl] [[((-2147483648), (-1)), (0, 0), (1, 2147483647)], [fl], [fl], [fl], [fl]] = true := by decide +kernel
theorem pt_32 : pts [[((-2147483648), (-1)), (0, 0), (1, 2147483647)], [fl], [fl], [fl], [fl]] = true := by decide +kernel
set_option maxRecDepth 100000 in
set_option maxHeartbeats 0 in
theorem ok_33 : okP 1107 [fl] [[fl], [fl], [fl], [fl], [fl]] = true := by decide +kernel
theorem pt_33 : pts [[fl], [fl], [fl], [fl], [fl]] = true := by decide +kernel
set_option maxRecDepth 100000 in
set_option maxHeartbeats 0 in
theorem ok_34 : okP 1120 [fl] [[((-2147483648), (-1)), (0, 0), (1, 2147483647)], [fl], [fl], [fl], [fl]] = true := by decide +kernel
theorem pt_34 : pts [[((-2147483648), (-1)), (0, 0), (1, 2147483647)], [fl], [fl], [fl], [fl]] = true := by decide +kernel
