theorem dX10_addObject_5 : decode cX10_addObject 5 = .ok (.getfield 37, 3) := by decide +kernel
theorem dX10_addObject_8 : decode cX10_addObject 8 = .ok (.iload_n 1, 1) := by decide +kernel
theorem dX10_addObject_9 : decode cX10_addObject 9 = .ok (.iastore, 1) := by decide +kernel
theorem dX10_addObject_10 : decode cX10_addObject 10 = .ok (.aload_n 0, 1) := by decide +kernel
theorem dX10_addObject_11 : decode cX10_addObject 11 = .ok (.getfield 24, 3) := by decide +kernel
theorem dX10_addObject_14 : decode cX10_addObject 14 = .ok (.aload_n 0, 1) := by decide +kernel
theorem dX10_addObject_15 : decode cX10_addObject 15 = .ok (.getfield 37, 3) := by decide +kernel
theorem dX10_addObject_18 : decode cX10_addObject 18 = .ok (.iload_n 2, 1) := by decide +kernel
theorem dX10_addObject_19 : decode cX10_addObject 19 = .ok (.iastore, 1) := by decide +kernel
theorem dX10_addObject_20 : decode cX10_addObject 20 = .ok (.aload_n 0, 1) := by decide +kernel
theorem dX10_addObject_21 : decode cX10_addObject 21 = .ok (.dup, 1) := by decide +kernel
theorem dX10_addObject_22 : decode cX10_addObject 22 = .ok (.getfield 37, 3) := by decide +kernel
theorem dX10_addObject_25 : decode cX10_addObject 25 = .ok (.dup_x1, 1) := by decide +kernel
theorem dX10_addObject_26 : decode cX10_addObject 26 = .ok (.iconst 1, 1) := by decide +kernel
theorem dX10_addObject_27 : decode cX10_addObject 27 = .ok (.iadd, 1) := by decide +kernel
theorem dX10_addObject_28 : decode cX10_addObject 28 = .ok (.putfield 37, 3) := by decide +kernel
theorem dX10_addObject_31 : decode cX10_addObject 31 = .ok (.ireturn, 1) := by decide +kernel
theorem dX10_changeStandard_0 : decode cX10_changeStandard 0 = .ok (.aload_n 0, 1) := by decide +kernel
theorem dX10_changeStandard_1 : decode cX10_changeStandard 1 = .ok (.getfield 18, 3) := by decide +kernel
theorem dX10_changeStandard_4 : decode cX10_changeStandard 4 = .ok (.iload_n 1, 1) := by decide +kernel
theorem dX10_changeStandard_5 : decode cX10_changeStandard 5 = .ok (.bipush 6, 2) := by decide +kernel
theorem dX10_changeStandard_7 : decode cX10_changeStandard 7 = .ok (.imul, 1) := by decide +kernel
theorem dX10_changeStandard_8 : decode cX10_changeStandard 8 = .ok (.iload_n 2, 1) := by decide +kernel
theorem dX10_changeStandard_9 : decode cX10_changeStandard 9 = .ok (.iadd, 1) := by decide +kernel
theorem dX10_changeStandard_10 : decode cX10_changeStandard 10 = .ok (.iaload, 1) := by decide +kernel
theorem dX10_changeStandard_11 : decode cX10_changeStandard 11 = .ok (.istore 4, 2) := by decide +kernel
theorem dX10_changeStandard_13 : decode cX10_changeStandard 13 = .ok (.aload_n 0, 1) := by decide +kernel
theorem dX10_changeStandard_14 : decode cX10_changeStandard 14 = .ok (.getfield 18, 3) := by decide +kernel
theorem dX10_changeStandard_17 : decode cX10_changeStandard 17 = .ok (.iload_n 1, 1) := by decide +kernel
theorem dX10_changeStandard_18 : decode cX10_changeStandard 18 = .ok (.bipush 6, 2) := by decide +kernel
theorem dX10_changeStandard_20 : decode cX10_changeStandard 20 = .ok (.imul, 1) := by decide +kernel
theorem dX10_changeStandard_21 : decode cX10_changeStandard 21 = .ok (.iload_n 2, 1) := by decide +kernel
theorem dX10_changeStandard_22 : decode cX10_changeStandard 22 = .ok (.iadd, 1) := by decide +kernel
theorem dX10_changeStandard_23 : decode cX10_changeStandard 23 = .ok (.iload_n 3, 1) := by decide +kernel
theorem dX10_changeStandard_24 : decode cX10_changeStandard 24 = .ok (.iastore, 1) := by decide +kernel
theorem dX10_changeStandard_25 : decode cX10_changeStandard 25 = .ok (.iload 4, 2) := by decide +kernel
theorem dX10_changeStandard_27 : decode cX10_changeStandard 27 = .ok (.ireturn, 1) := by decide +kernel
theorem dX11_answerFinding_0 : decode cX11_answerFinding 0 = .ok (.aload_n 0, 1) := by decide +kernel
theorem dX11_answerFinding_1 : decode cX11_answerFinding 1 = .ok (.iload_n 1, 1) := by decide +kernel
theorem dX11_answerFinding_2 : decode cX11_answerFinding 2 = .ok (.putfield 72, 3) := by decide +kernel
theorem dX11_answerFinding_5 : decode cX11_answerFinding 5 = .ok (.aload_n 0, 1) := by decide +kernel
theorem dX11_answerFinding_6 : decode cX11_answerFinding 6 = .ok (.getfield 68, 3) := by decide +kernel
theorem dX11_answerFinding_9 : decode cX11_answerFinding 9 = .ok (.iload_n 1, 1) := by decide +kernel
theorem dX11_answerFinding_10 : decode cX11_answerFinding 10 = .ok (.dup2, 1) := by decide +kernel
theorem dX11_answerFinding_11 : decode cX11_answerFinding 11 = .ok (.iaload, 1) := by decide +kernel
theorem dX11_answerFinding_12 : decode cX11_answerFinding 12 = .ok (.iconst 1, 1) := by decide +kernel
theorem dX11_answerFinding_13 : decode cX11_answerFinding 13 = .ok (.iadd, 1) := by decide +kernel
theorem dX11_answerFinding_14 : decode cX11_answerFinding 14 = .ok (.iastore, 1) := by decide +kernel
theorem dX11_answerFinding_15 : decode cX11_answerFinding 15 = .ok (.bipush (-3), 2) := by decide +kernel
theorem dX11_answerFinding_17 : decode cX11_answerFinding 17 = .ok (.ireturn, 1) := by decide +kernel
set_option maxRecDepth 20000 in
theorem ggX11_refuseRooms_X10_hasObject : GoodIn wsX11_refuseRooms wsX10_hasObject := goodIn_r _ [6, 7, 32, 33, 34, 35, 36, 37, 38] (by decide +kernel) (by decide +kernel)
set_option maxRecDepth 20000 in
theorem gX11_refuseRooms_X10_hasObject : GoodIn wsX11_refuseRooms (wsV RX11 109 RX10 yX10_hasObject wsX10_hasObject) := goodIn_app (goodIn_of _ (by decide +kernel)) ggX11_refuseRooms_X10_hasObject
theorem dX11_refuseRooms_0 : decode cX11_refuseRooms 0 = .ok (.aload_n 0, 1) := by decide +kernel
theorem dX11_refuseRooms_1 : decode cX11_refuseRooms 1 = .ok (.getfield 10, 3) := by decide +kernel
theorem dX11_refuseRooms_4 : decode cX11_refuseRooms 4 = .ok (.iload_n 1, 1) := by decide +kernel
theorem dX11_refuseRooms_5 : decode cX11_refuseRooms 5 = .ok (.invokevirtual 109, 3) := by decide +kernel
theorem dX11_refuseRooms_8 : decode cX11_refuseRooms 8 = .ok (.ifCond .eq 14, 3) := by decide +kernel
theorem dX11_refuseRooms_22 : decode cX11_refuseRooms 22 = .ok (.iconst (-1), 1) := by decide +kernel
theorem dX11_refuseRooms_23 : decode cX11_refuseRooms 23 = .ok (.ireturn, 1) := by decide +kernel
set_option maxRecDepth 20000 in
theorem ggX11_refuseItem_X10_hasObject : GoodIn wsX11_refuseItem wsX10_hasObject := goodIn_r _ [9, 10, 41, 42, 43, 44, 45, 46, 47] (by decide +kernel) (by decide +kernel)
set_option maxRecDepth 20000 in
theorem gX11_refuseItem_X10_hasObject : GoodIn wsX11_refuseItem (wsV RX11 109 RX10 yX10_hasObject wsX10_hasObject) := goodIn_app (goodIn_of _ (by decide +kernel)) ggX11_refuseItem_X10_hasObject
theorem dX11_refuseItem_0 : decode cX11_refuseItem 0 = .ok (.aload_n 0, 1) := by decide +kernel
theorem dX11_refuseItem_1 : decode cX11_refuseItem 1 = .ok (.getfield 10, 3) := by decide +kernel
theorem dX11_refuseItem_4 : decode cX11_refuseItem 4 = .ok (.iload_n 1, 1) := by decide +kernel
theorem dX11_refuseItem_5 : decode cX11_refuseItem 5 = .ok (.invokevirtual 109, 3) := by decide +kernel
theorem dX11_refuseItem_8 : decode cX11_refuseItem 8 = .ok (.ifCond .eq 11, 3) := by decide +kernel
theorem dX11_refuseItem_19 : decode cX11_refuseItem 19 = .ok (.iconst (-1), 1) := by decide +kernel
theorem dX11_refuseItem_20 : decode cX11_refuseItem 20 = .ok (.ireturn, 1) := by decide +kernel
theorem dX11_isBelow_0 : decode cX11_isBelow 0 = .ok (.iload_n 0, 1) := by decide +kernel
theorem dX11_isBelow_1 : decode cX11_isBelow 1 = .ok (.ifCond .lt 12, 3) := by decide +kernel
theorem dX11_isBelow_4 : decode cX11_isBelow 4 = .ok (.iload_n 0, 1) := by decide +kernel
theorem dX11_isBelow_5 : decode cX11_isBelow 5 = .ok (.iload_n 1, 1) := by decide +kernel
theorem dX11_isBelow_6 : decode cX11_isBelow 6 = .ok (.if_icmp .ge 7, 3) := by decide +kernel
theorem dX11_isBelow_9 : decode cX11_isBelow 9 = .ok (.iconst 1, 1) := by decide +kernel
theorem dX11_isBelow_10 : decode cX11_isBelow 10 = .ok (.goto 4, 3) := by decide +kernel
theorem dX11_isBelow_13 : decode cX11_isBelow 13 = .ok (.iconst 0, 1) := by decide +kernel
theorem dX11_isBelow_14 : decode cX11_isBelow 14 = .ok (.ireturn, 1) := by decide +kernel
theorem dX12_in_0 : decode cX12_in 0 = .ok (.lload_n 0, 1) := by decide +kernel
theorem dX12_in_1 : decode cX12_in 1 = .ok (.lload_n 2, 1) := by decide +kernel
theorem dX12_in_2 : decode cX12_in 2 = .ok (.lcmp, 1) := by decide +kernel
theorem dX12_in_3 : decode cX12_in 3 = .ok (.ifCond .lt 14, 3) := by decide +kernel
theorem dX12_in_6 : decode cX12_in 6 = .ok (.lload_n 0, 1) := by decide +kernel
theorem dX12_in_7 : decode cX12_in 7 = .ok (.lload 4, 2) := by decide +kernel
theorem dX12_in_9 : decode cX12_in 9 = .ok (.lcmp, 1) := by decide +kernel
theorem dX12_in_10 : decode cX12_in 10 = .ok (.ifCond .gt 7, 3) := by decide +kernel
theorem dX12_in_13 : decode cX12_in 13 = .ok (.iconst 1, 1) := by decide +kernel
theorem dX12_in_14 : decode cX12_in 14 = .ok (.goto 4, 3) := by decide +kernel
theorem dX12_in_17 : decode cX12_in 17 = .ok (.iconst 0, 1) := by decide +kernel
theorem dX12_in_18 : decode cX12_in 18 = .ok (.ireturn, 1) := by decide +kernel
theorem dX12_meets_0 : decode cX12_meets 0 = .ok (.aload_n 0, 1) := by decide +kernel
theorem dX12_meets_1 : decode cX12_meets 1 = .ok (.iload_n 1, 1) := by decide +kernel
theorem dX12_meets_2 : decode cX12_meets 2 = .ok (.putfield 161, 3) := by decide +kernel
theorem dX12_meets_5 : decode cX12_meets 5 = .ok (.aload_n 0, 1) := by decide +kernel
theorem dX12_meets_6 : decode cX12_meets 6 = .ok (.getfield 7, 3) := by decide +kernel
theorem dX12_meets_9 : decode cX12_meets 9 = .ok (.iload_n 1, 1) := by decide +kernel
theorem dX12_meets_10 : decode cX12_meets 10 = .ok (.dup2, 1) := by decide +kernel
theorem dX12_meets_11 : decode cX12_meets 11 = .ok (.iaload, 1) := by decide +kernel
theorem dX12_meets_12 : decode cX12_meets 12 = .ok (.iconst 1, 1) := by decide +kernel
theorem dX12_meets_13 : decode cX12_meets 13 = .ok (.iadd, 1) := by decide +kernel
theorem dX12_meets_14 : decode cX12_meets 14 = .ok (.iastore, 1) := by decide +kernel
theorem dX12_meets_15 : decode cX12_meets 15 = .ok (.bipush (-3), 2) := by decide +kernel
theorem dX12_meets_17 : decode cX12_meets 17 = .ok (.ireturn, 1) := by decide +kernel
set_option maxRecDepth 20000 in
theorem ggX12_isObject_X12_in : GoodIn wsX12_isObject wsX12_in := goodIn_r _ [5] (by decide +kernel) (by decide +kernel)
set_option maxRecDepth 20000 in
theorem gX12_isObject_X12_in : GoodIn wsX12_isObject (va_wsS RX12 166 yX12_in wsX12_in) := goodIn_app (goodIn_of _ (by decide +kernel)) ggX12_isObject_X12_in
theorem dX12_isObject_0 : decode cX12_isObject 0 = .ok (.iload_n 1, 1) := by decide +kernel
theorem dX12_isObject_1 : decode cX12_isObject 1 = .ok (.i2l, 1) := by decide +kernel
theorem dX12_isObject_2 : decode cX12_isObject 2 = .ok (.lconst 0, 1) := by decide +kernel
theorem dX12_isObject_3 : decode cX12_isObject 3 = .ok (.aload_n 0, 1) := by decide +kernel
theorem dX12_isObject_4 : decode cX12_isObject 4 = .ok (.getfield 177, 3) := by decide +kernel
theorem dX12_isObject_7 : decode cX12_isObject 7 = .ok (.iconst 1, 1) := by decide +kernel
theorem dX12_isObject_8 : decode cX12_isObject 8 = .ok (.isub, 1) := by decide +kernel
theorem dX12_isObject_9 : decode cX12_isObject 9 = .ok (.i2l, 1) := by decide +kernel
theorem dX12_isObject_10 : decode cX12_isObject 10 = .ok (.invokestatic 166, 3) := by decide +kernel
theorem dX12_isObject_13 : decode cX12_isObject 13 = .ok (.ireturn, 1) := by decide +kernel
set_option maxRecDepth 20000 in
theorem ggX12_areNumbers_X12_isObject : GoodIn wsX12_areNumbers wsX12_isObject := goodIn_r _ [7, 8, 9, 10, 6, 11, 12, 13, 14, 15, 16, 17, 18, 19, 20, 21, 22, 23, 24, 25, 26, 27, 28, 29, 30, 31, 32, 33, 34, 35, 36, 37, 38, 39, 40, 41, 42, 43, 44, 45, 46, 47, 48, 49, 50, 51, 52, 53, 54, 55, 56, 57, 58, 59, 60, 61, 62, 63, 64, 65, 66, 67, 68, 69, 70, 71, 72, 73, 74, 75, 76, 77, 78, 79, 80] (by decide +kernel) (by decide +kernel)
set_option maxRecDepth 20000 in
theorem gX12_areNumbers_X12_isObject : GoodIn wsX12_areNumbers (wsV RX12 180 RX12 yX12_isObject wsX12_isObject) := goodIn_app (goodIn_of _ (by decide +kernel)) ggX12_areNumbers_X12_isObject
theorem dX12_areNumbers_0 : decode cX12_areNumbers 0 = .ok (.iload_n 1, 1) := by decide +kernel
theorem dX12_areNumbers_1 : decode cX12_areNumbers 1 = .ok (.bipush 6, 2) := by decide +kernel
theorem dX12_areNumbers_3 : decode cX12_areNumbers 3 = .ok (.if_icmp .ne 40, 3) := by decide +kernel
theorem dX12_areNumbers_6 : decode cX12_areNumbers 6 = .ok (.aload_n 0, 1) := by decide +kernel
theorem dX12_areNumbers_7 : decode cX12_areNumbers 7 = .ok (.iload_n 2, 1) := by decide +kernel
theorem dX12_areNumbers_8 : decode cX12_areNumbers 8 = .ok (.invokevirtual 180, 3) := by decide +kernel
theorem dX12_areNumbers_11 : decode cX12_areNumbers 11 = .ok (.ifCond .eq 30, 3) := by decide +kernel
theorem dX12_areNumbers_41 : decode cX12_areNumbers 41 = .ok (.iconst 0, 1) := by decide +kernel
theorem dX12_areNumbers_42 : decode cX12_areNumbers 42 = .ok (.ireturn, 1) := by decide +kernel
theorem dX12_areNumbers_43 : decode cX12_areNumbers 43 = .ok (.aload_n 0, 1) := by decide +kernel
theorem dX12_areNumbers_44 : decode cX12_areNumbers 44 = .ok (.iload_n 2, 1) := by decide +kernel
theorem dX12_areNumbers_45 : decode cX12_areNumbers 45 = .ok (.invokevirtual 180, 3) := by decide +kernel
theorem dX12_areNumbers_48 : decode cX12_areNumbers 48 = .ok (.ifCond .eq 33, 3) := by decide +kernel
theorem dX12_areNumbers_81 : decode cX12_areNumbers 81 = .ok (.iconst 0, 1) := by decide +kernel
theorem dX12_areNumbers_82 : decode cX12_areNumbers 82 = .ok (.ireturn, 1) := by decide +kernel
theorem dX12_saidMany_0 : decode cX12_saidMany 0 = .ok (.iconst 0, 1) := by decide +kernel
theorem dX12_saidMany_1 : decode cX12_saidMany 1 = .ok (.istore_n 1, 1) := by decide +kernel
theorem dX12_saidMany_2 : decode cX12_saidMany 2 = .ok (.iconst 0, 1) := by decide +kernel
theorem dX12_saidMany_3 : decode cX12_saidMany 3 = .ok (.istore_n 2, 1) := by decide +kernel
theorem dX12_saidMany_4 : decode cX12_saidMany 4 = .ok (.iload_n 2, 1) := by decide +kernel
theorem dX12_saidMany_5 : decode cX12_saidMany 5 = .ok (.aload_n 0, 1) := by decide +kernel
theorem dX12_saidMany_6 : decode cX12_saidMany 6 = .ok (.getfield 202, 3) := by decide +kernel
theorem dX12_saidMany_9 : decode cX12_saidMany 9 = .ok (.if_icmp .ge 26, 3) := by decide +kernel
theorem dX12_saidMany_35 : decode cX12_saidMany 35 = .ok (.iload_n 1, 1) := by decide +kernel
theorem dX12_saidMany_36 : decode cX12_saidMany 36 = .ok (.ireturn, 1) := by decide +kernel
set_option maxRecDepth 20000 in
theorem ggX12_wayRefused_X12_isObject : GoodIn wsX12_wayRefused wsX12_isObject := goodIn_r _ [5, 6, 7, 8, 4, 9, 22, 23, 24, 25, 26, 27, 28, 29, 30, 31, 32, 33, 34, 35, 36, 37, 38, 39, 40, 41, 42, 43, 44, 45, 46, 47, 48, 49, 50, 51, 52, 53, 54, 55, 56, 57, 58, 59, 60, 61, 62, 63, 64, 65, 66, 67, 68, 69, 70, 71, 72, 73, 74, 75, 76, 77, 78, 79, 80, 81, 82, 83, 84, 85, 86, 87, 88, 89, 90] (by decide +kernel) (by decide +kernel)
set_option maxRecDepth 20000 in
theorem gX12_wayRefused_X12_isObject : GoodIn wsX12_wayRefused (wsV RX12 180 RX12 yX12_isObject wsX12_isObject) := goodIn_app (goodIn_of _ (by decide +kernel)) ggX12_wayRefused_X12_isObject
theorem dX12_wayRefused_0 : decode cX12_wayRefused 0 = .ok (.aload_n 0, 1) := by decide +kernel
theorem dX12_wayRefused_1 : decode cX12_wayRefused 1 = .ok (.iload_n 1, 1) := by decide +kernel
theorem dX12_wayRefused_2 : decode cX12_wayRefused 2 = .ok (.invokevirtual 180, 3) := by decide +kernel
theorem dX12_wayRefused_5 : decode cX12_wayRefused 5 = .ok (.ifCond .eq 11, 3) := by decide +kernel
theorem dX12_wayRefused_16 : decode cX12_wayRefused 16 = .ok (.iconst (-1), 1) := by decide +kernel
theorem dX12_wayRefused_17 : decode cX12_wayRefused 17 = .ok (.goto 30, 3) := by decide +kernel
theorem dX12_wayRefused_47 : decode cX12_wayRefused 47 = .ok (.ireturn, 1) := by decide +kernel
theorem dX12_endTale_0 : decode cX12_endTale 0 = .ok (.aload_n 0, 1) := by decide +kernel
theorem dX12_endTale_1 : decode cX12_endTale 1 = .ok (.bipush (-9), 2) := by decide +kernel
theorem dX12_endTale_3 : decode cX12_endTale 3 = .ok (.putfield 155, 3) := by decide +kernel
theorem dX12_endTale_6 : decode cX12_endTale 6 = .ok (.aload_n 0, 1) := by decide +kernel
theorem dX12_endTale_7 : decode cX12_endTale 7 = .ok (.iconst 0, 1) := by decide +kernel
theorem dX12_endTale_8 : decode cX12_endTale 8 = .ok (.putfield 291, 3) := by decide +kernel
theorem dX12_endTale_11 : decode cX12_endTale 11 = .ok (.return_, 1) := by decide +kernel
theorem dX12_hasSecond_0 : decode cX12_hasSecond 0 = .ok (.iload_n 0, 1) := by decide +kernel
theorem dX12_hasSecond_1 : decode cX12_hasSecond 1 = .ok (.iconst 3, 1) := by decide +kernel
theorem dX12_hasSecond_2 : decode cX12_hasSecond 2 = .ok (.if_icmp .eq 20, 3) := by decide +kernel
theorem dX12_hasSecond_5 : decode cX12_hasSecond 5 = .ok (.iload_n 0, 1) := by decide +kernel
theorem dX12_hasSecond_6 : decode cX12_hasSecond 6 = .ok (.iconst 4, 1) := by decide +kernel
theorem dX12_hasSecond_7 : decode cX12_hasSecond 7 = .ok (.if_icmp .eq 15, 3) := by decide +kernel
theorem dX12_hasSecond_10 : decode cX12_hasSecond 10 = .ok (.iload_n 0, 1) := by decide +kernel
theorem dX12_hasSecond_11 : decode cX12_hasSecond 11 = .ok (.bipush 7, 2) := by decide +kernel
theorem dX12_hasSecond_13 : decode cX12_hasSecond 13 = .ok (.if_icmp .eq 9, 3) := by decide +kernel
theorem dX12_hasSecond_16 : decode cX12_hasSecond 16 = .ok (.iload_n 0, 1) := by decide +kernel
theorem dX12_hasSecond_17 : decode cX12_hasSecond 17 = .ok (.bipush 8, 2) := by decide +kernel
theorem dX12_hasSecond_19 : decode cX12_hasSecond 19 = .ok (.if_icmp .ne 7, 3) := by decide +kernel
theorem dX12_hasSecond_22 : decode cX12_hasSecond 22 = .ok (.iconst 1, 1) := by decide +kernel
theorem dX12_hasSecond_23 : decode cX12_hasSecond 23 = .ok (.goto 4, 3) := by decide +kernel
theorem dX12_hasSecond_26 : decode cX12_hasSecond 26 = .ok (.iconst 0, 1) := by decide +kernel
theorem dX12_hasSecond_27 : decode cX12_hasSecond 27 = .ok (.ireturn, 1) := by decide +kernel
abbrev vwCl : List vw_C := [(RX0, TX0, 7), (RX1, TX1, 15), (RX2, TX2, 4), (RX3, TX3, 4), (RX4, TX4, 3), (RX5, TX5, 11), (RX6, TX6, 2), (RX7, TX7, 15), (RX8, TX8, 6), (RX9, TX9, 11), (RX10, TX10, 7), (RX11, TX11, 11), (RX12, TX12, 69)]
