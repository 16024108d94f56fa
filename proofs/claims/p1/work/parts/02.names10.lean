theorem dX11_act_40 : decode cX11_act 40 = .ok (.bipush (-5), 2) := by decide +kernel
theorem dX11_act_42 : decode cX11_act 42 = .ok (.ireturn, 1) := by decide +kernel
theorem dX11_back_0 : decode cX11_back 0 = .ok (.aload_n 0, 1) := by decide +kernel
theorem dX11_back_1 : decode cX11_back 1 = .ok (.getfield 46, 3) := by decide +kernel
theorem dX11_back_4 : decode cX11_back 4 = .ok (.getfield 257, 3) := by decide +kernel
theorem dX11_back_7 : decode cX11_back 7 = .ok (.ifCond .eq 13, 3) := by decide +kernel
theorem dX11_back_20 : decode cX11_back 20 = .ok (.bipush (-5), 2) := by decide +kernel
theorem dX11_back_22 : decode cX11_back 22 = .ok (.ireturn, 1) := by decide +kernel
set_option maxRecDepth 20000 in
theorem ggX11_now_X10_hasObject : GoodIn wsX11_now wsX10_hasObject := goodIn_r _ [8, 9, 79, 80, 81, 82, 83, 84, 85] (by decide +kernel) (by decide +kernel)
set_option maxRecDepth 20000 in
theorem gX11_now_X10_hasObject : GoodIn wsX11_now (wsV RX11 109 RX10 yX10_hasObject wsX10_hasObject) := goodIn_app (goodIn_of _ (by decide +kernel)) ggX11_now_X10_hasObject
theorem dX11_now_0 : decode cX11_now 0 = .ok (.aload_n 0, 1) := by decide +kernel
theorem dX11_now_1 : decode cX11_now 1 = .ok (.getfield 10, 3) := by decide +kernel
theorem dX11_now_4 : decode cX11_now 4 = .ok (.iload_n 1, 1) := by decide +kernel
theorem dX11_now_5 : decode cX11_now 5 = .ok (.invokevirtual 109, 3) := by decide +kernel
theorem dX11_now_8 : decode cX11_now 8 = .ok (.ifCond .eq 12, 3) := by decide +kernel
theorem dX11_now_20 : decode cX11_now 20 = .ok (.iconst (-1), 1) := by decide +kernel
theorem dX11_now_21 : decode cX11_now 21 = .ok (.ireturn, 1) := by decide +kernel
set_option maxRecDepth 20000 in
theorem ggX11_turn_X11_isBelow : GoodIn wsX11_turn wsX11_isBelow := goodIn_r _ [8] (by decide +kernel) (by decide +kernel)
set_option maxRecDepth 20000 in
theorem gX11_turn_X11_isBelow : GoodIn wsX11_turn (va_wsS RX11 91 yX11_isBelow wsX11_isBelow) := goodIn_app (goodIn_of _ (by decide +kernel)) ggX11_turn_X11_isBelow
theorem dX11_turn_0 : decode cX11_turn 0 = .ok (.iload_n 2, 1) := by decide +kernel
theorem dX11_turn_1 : decode cX11_turn 1 = .ok (.iconst 3, 1) := by decide +kernel
theorem dX11_turn_2 : decode cX11_turn 2 = .ok (.invokestatic 91, 3) := by decide +kernel
theorem dX11_turn_5 : decode cX11_turn 5 = .ok (.ifCond .eq 7, 3) := by decide +kernel
theorem dX11_turn_8 : decode cX11_turn 8 = .ok (.iload_n 1, 1) := by decide +kernel
theorem dX11_turn_9 : decode cX11_turn 9 = .ok (.ifCond .ge 5, 3) := by decide +kernel
theorem dX11_turn_12 : decode cX11_turn 12 = .ok (.iconst (-1), 1) := by decide +kernel
theorem dX11_turn_13 : decode cX11_turn 13 = .ok (.ireturn, 1) := by decide +kernel
theorem dX11_turn_14 : decode cX11_turn 14 = .ok (.aload_n 0, 1) := by decide +kernel
theorem dX11_turn_15 : decode cX11_turn 15 = .ok (.getfield 46, 3) := by decide +kernel
theorem dX11_turn_18 : decode cX11_turn 18 = .ok (.getfield 257, 3) := by decide +kernel
theorem dX11_turn_21 : decode cX11_turn 21 = .ok (.ifCond .ne 6, 3) := by decide +kernel
theorem dX11_turn_24 : decode cX11_turn 24 = .ok (.bipush (-5), 2) := by decide +kernel
theorem dX11_turn_26 : decode cX11_turn 26 = .ok (.ireturn, 1) := by decide +kernel
theorem dX11_light_0 : decode cX11_light 0 = .ok (.aload_n 0, 1) := by decide +kernel
theorem dX11_light_1 : decode cX11_light 1 = .ok (.getfield 46, 3) := by decide +kernel
theorem dX11_light_4 : decode cX11_light 4 = .ok (.getfield 257, 3) := by decide +kernel
theorem dX11_light_7 : decode cX11_light 7 = .ok (.ifCond .ne 6, 3) := by decide +kernel
theorem dX11_light_10 : decode cX11_light 10 = .ok (.bipush (-5), 2) := by decide +kernel
theorem dX11_light_12 : decode cX11_light 12 = .ok (.ireturn, 1) := by decide +kernel
set_option maxRecDepth 20000 in
theorem ggX11_seek_X10_hasObject : GoodIn wsX11_seek wsX10_hasObject := goodIn_r _ [17, 18, 372, 373, 374, 375, 376, 377, 378] (by decide +kernel) (by decide +kernel)
set_option maxRecDepth 20000 in
theorem gX11_seek_X10_hasObject : GoodIn wsX11_seek (wsV RX11 109 RX10 yX10_hasObject wsX10_hasObject) := goodIn_app (goodIn_of _ (by decide +kernel)) ggX11_seek_X10_hasObject
theorem dX11_seek_0 : decode cX11_seek 0 = .ok (.aload_n 0, 1) := by decide +kernel
theorem dX11_seek_1 : decode cX11_seek 1 = .ok (.getfield 10, 3) := by decide +kernel
theorem dX11_seek_4 : decode cX11_seek 4 = .ok (.iload_n 1, 1) := by decide +kernel
theorem dX11_seek_5 : decode cX11_seek 5 = .ok (.invokevirtual 109, 3) := by decide +kernel
theorem dX11_seek_8 : decode cX11_seek 8 = .ok (.ifCond .eq 25, 3) := by decide +kernel
theorem dX11_seek_33 : decode cX11_seek 33 = .ok (.iconst (-1), 1) := by decide +kernel
theorem dX11_seek_34 : decode cX11_seek 34 = .ok (.ireturn, 1) := by decide +kernel
set_option maxRecDepth 20000 in
theorem ggX11_sought_X11_isBelow : GoodIn wsX11_sought wsX11_isBelow := goodIn_r _ [7] (by decide +kernel) (by decide +kernel)
set_option maxRecDepth 20000 in
theorem gX11_sought_X11_isBelow : GoodIn wsX11_sought (va_wsS RX11 91 yX11_isBelow wsX11_isBelow) := goodIn_app (goodIn_of _ (by decide +kernel)) ggX11_sought_X11_isBelow
theorem dX11_sought_0 : decode cX11_sought 0 = .ok (.iload_n 2, 1) := by decide +kernel
theorem dX11_sought_1 : decode cX11_sought 1 = .ok (.iconst 3, 1) := by decide +kernel
theorem dX11_sought_2 : decode cX11_sought 2 = .ok (.invokestatic 91, 3) := by decide +kernel
theorem dX11_sought_5 : decode cX11_sought 5 = .ok (.ifCond .ne 5, 3) := by decide +kernel
theorem dX11_sought_8 : decode cX11_sought 8 = .ok (.iconst (-1), 1) := by decide +kernel
theorem dX11_sought_9 : decode cX11_sought 9 = .ok (.ireturn, 1) := by decide +kernel
theorem dX11_sought_10 : decode cX11_sought 10 = .ok (.aload_n 0, 1) := by decide +kernel
theorem dX11_sought_11 : decode cX11_sought 11 = .ok (.getfield 64, 3) := by decide +kernel
theorem dX11_sought_14 : decode cX11_sought 14 = .ok (.ifnull 17, 3) := by decide +kernel
theorem dX11_sought_31 : decode cX11_sought 31 = .ok (.bipush (-9), 2) := by decide +kernel
theorem dX11_sought_33 : decode cX11_sought 33 = .ok (.ireturn, 1) := by decide +kernel
set_option maxRecDepth 20000 in
theorem ggX11_line_X10_hasObject : GoodIn wsX11_line wsX10_hasObject := goodIn_r _ [7, 8, 38, 39, 40, 41, 42, 43, 44] (by decide +kernel) (by decide +kernel)
set_option maxRecDepth 20000 in
theorem gX11_line_X10_hasObject : GoodIn wsX11_line (wsV RX11 109 RX10 yX10_hasObject wsX10_hasObject) := goodIn_app (goodIn_of _ (by decide +kernel)) ggX11_line_X10_hasObject
theorem dX11_line_0 : decode cX11_line 0 = .ok (.aload_n 0, 1) := by decide +kernel
theorem dX11_line_1 : decode cX11_line 1 = .ok (.getfield 10, 3) := by decide +kernel
theorem dX11_line_4 : decode cX11_line 4 = .ok (.iload_n 1, 1) := by decide +kernel
theorem dX11_line_5 : decode cX11_line 5 = .ok (.invokevirtual 109, 3) := by decide +kernel
theorem dX11_line_8 : decode cX11_line 8 = .ok (.ifCond .eq 17, 3) := by decide +kernel
theorem dX11_line_25 : decode cX11_line 25 = .ok (.iconst (-1), 1) := by decide +kernel
theorem dX11_line_26 : decode cX11_line 26 = .ok (.ireturn, 1) := by decide +kernel
set_option maxRecDepth 20000 in
theorem ggX11_put_X11_refuseItem : GoodIn wsX11_put wsX11_refuseItem := goodIn_r _ [7, 8, 1, 9, 10, 11, 12, 13, 14, 15, 16, 17, 18, 6, 19, 20, 21, 22, 23, 24, 25, 26, 27, 28, 29, 30, 31, 42, 43, 44, 45, 46, 47, 48, 49, 50, 51, 52, 53, 54, 55, 56, 57, 58, 59, 60, 61, 62] (by decide +kernel) (by decide +kernel)
set_option maxRecDepth 20000 in
theorem gX11_put_X11_refuseItem : GoodIn wsX11_put (wsV RX11 308 RX11 yX11_refuseItem wsX11_refuseItem) := goodIn_app (goodIn_of _ (by decide +kernel)) ggX11_put_X11_refuseItem
theorem dX11_put_0 : decode cX11_put 0 = .ok (.aload_n 0, 1) := by decide +kernel
theorem dX11_put_1 : decode cX11_put 1 = .ok (.iload_n 1, 1) := by decide +kernel
theorem dX11_put_2 : decode cX11_put 2 = .ok (.iload_n 2, 1) := by decide +kernel
theorem dX11_put_3 : decode cX11_put 3 = .ok (.iload_n 3, 1) := by decide +kernel
theorem dX11_put_4 : decode cX11_put 4 = .ok (.invokevirtual 308, 3) := by decide +kernel
theorem dX11_put_7 : decode cX11_put 7 = .ok (.istore 6, 2) := by decide +kernel
theorem dX11_put_9 : decode cX11_put 9 = .ok (.iload 6, 2) := by decide +kernel
theorem dX11_put_11 : decode cX11_put 11 = .ok (.ifCond .eq 6, 3) := by decide +kernel
theorem dX11_put_14 : decode cX11_put 14 = .ok (.iload 6, 2) := by decide +kernel
theorem dX11_put_16 : decode cX11_put 16 = .ok (.ireturn, 1) := by decide +kernel
set_option maxRecDepth 20000 in
theorem ggX11_item_X11_refuseItem : GoodIn wsX11_item wsX11_refuseItem := goodIn_r _ [8, 9, 1, 10, 11, 12, 13, 14, 15, 16, 17, 18, 19, 7, 20, 21, 22, 23, 24, 25, 26, 27, 28, 29, 30, 31, 32, 33, 34, 35, 36, 37, 38, 39, 40, 41, 42, 43, 44, 45, 46, 47, 48, 49, 50, 51, 52, 53] (by decide +kernel) (by decide +kernel)
set_option maxRecDepth 20000 in
theorem gX11_item_X11_refuseItem : GoodIn wsX11_item (wsV RX11 308 RX11 yX11_refuseItem wsX11_refuseItem) := goodIn_app (goodIn_of _ (by decide +kernel)) ggX11_item_X11_refuseItem
theorem dX11_item_0 : decode cX11_item 0 = .ok (.aload_n 0, 1) := by decide +kernel
theorem dX11_item_1 : decode cX11_item 1 = .ok (.iload_n 1, 1) := by decide +kernel
theorem dX11_item_2 : decode cX11_item 2 = .ok (.iload_n 2, 1) := by decide +kernel
theorem dX11_item_3 : decode cX11_item 3 = .ok (.iload_n 3, 1) := by decide +kernel
theorem dX11_item_4 : decode cX11_item 4 = .ok (.invokevirtual 308, 3) := by decide +kernel
theorem dX11_item_7 : decode cX11_item 7 = .ok (.istore 4, 2) := by decide +kernel
theorem dX11_item_9 : decode cX11_item 9 = .ok (.iload 4, 2) := by decide +kernel
theorem dX11_item_11 : decode cX11_item 11 = .ok (.ifCond .eq 6, 3) := by decide +kernel
theorem dX11_item_14 : decode cX11_item 14 = .ok (.iload 4, 2) := by decide +kernel
theorem dX11_item_16 : decode cX11_item 16 = .ok (.ireturn, 1) := by decide +kernel
set_option maxRecDepth 20000 in
theorem ggX11_copy_X10_hasObject : GoodIn wsX11_copy wsX10_hasObject := goodIn_r _ [13, 14, 50, 51, 52, 53, 54, 55, 56] (by decide +kernel) (by decide +kernel)
set_option maxRecDepth 20000 in
theorem gX11_copy_X10_hasObject : GoodIn wsX11_copy (wsV RX11 109 RX10 yX10_hasObject wsX10_hasObject) := goodIn_app (goodIn_of _ (by decide +kernel)) ggX11_copy_X10_hasObject
theorem dX11_copy_0 : decode cX11_copy 0 = .ok (.aload_n 0, 1) := by decide +kernel
theorem dX11_copy_1 : decode cX11_copy 1 = .ok (.getfield 10, 3) := by decide +kernel
theorem dX11_copy_4 : decode cX11_copy 4 = .ok (.iload_n 1, 1) := by decide +kernel
theorem dX11_copy_5 : decode cX11_copy 5 = .ok (.invokevirtual 109, 3) := by decide +kernel
theorem dX11_copy_8 : decode cX11_copy 8 = .ok (.ifCond .eq 23, 3) := by decide +kernel
theorem dX11_copy_31 : decode cX11_copy 31 = .ok (.iconst (-1), 1) := by decide +kernel
theorem dX11_copy_32 : decode cX11_copy 32 = .ok (.ireturn, 1) := by decide +kernel
set_option maxRecDepth 20000 in
theorem ggX11_cast_X11_answerFinding : GoodIn wsX11_cast wsX11_answerFinding := goodIn_r _ [7, 8, 9, 18, 19, 20, 21, 22, 23, 24, 25, 26, 27, 28] (by decide +kernel) (by decide +kernel)
set_option maxRecDepth 20000 in
theorem gX11_cast_X11_answerFinding : GoodIn wsX11_cast (wsV RX11 128 RX11 yX11_answerFinding wsX11_answerFinding) := goodIn_app (goodIn_of _ (by decide +kernel)) ggX11_cast_X11_answerFinding
set_option maxRecDepth 20000 in
theorem ggX11_cast_X3_open : GoodIn wsX11_cast wsX3_open := goodIn_r _ [14, 15, 16, 17, 29, 30, 31, 32] (by decide +kernel) (by decide +kernel)
set_option maxRecDepth 20000 in
theorem gX11_cast_X3_open : GoodIn wsX11_cast (wsV RX11 337 RX3 yX3_open wsX3_open) := goodIn_app (goodIn_of _ (by decide +kernel)) ggX11_cast_X3_open
theorem dX11_cast_0 : decode cX11_cast 0 = .ok (.iload_n 1, 1) := by decide +kernel
theorem dX11_cast_1 : decode cX11_cast 1 = .ok (.iconst 1, 1) := by decide +kernel
theorem dX11_cast_2 : decode cX11_cast 2 = .ok (.if_icmp .lt 14, 3) := by decide +kernel
theorem dX11_cast_5 : decode cX11_cast 5 = .ok (.iload_n 1, 1) := by decide +kernel
theorem dX11_cast_6 : decode cX11_cast 6 = .ok (.iconst 5, 1) := by decide +kernel
theorem dX11_cast_7 : decode cX11_cast 7 = .ok (.if_icmp .gt 9, 3) := by decide +kernel
theorem dX11_cast_10 : decode cX11_cast 10 = .ok (.iload_n 2, 1) := by decide +kernel
theorem dX11_cast_11 : decode cX11_cast 11 = .ok (.bipush 12, 2) := by decide +kernel
theorem dX11_cast_13 : decode cX11_cast 13 = .ok (.if_icmp .le 5, 3) := by decide +kernel
theorem dX11_cast_16 : decode cX11_cast 16 = .ok (.iconst (-1), 1) := by decide +kernel
theorem dX11_cast_17 : decode cX11_cast 17 = .ok (.ireturn, 1) := by decide +kernel
theorem dX11_cast_18 : decode cX11_cast 18 = .ok (.aload_n 0, 1) := by decide +kernel
theorem dX11_cast_19 : decode cX11_cast 19 = .ok (.getfield 60, 3) := by decide +kernel
theorem dX11_cast_22 : decode cX11_cast 22 = .ok (.getfield 334, 3) := by decide +kernel
theorem dX11_cast_25 : decode cX11_cast 25 = .ok (.bipush 10, 2) := by decide +kernel
theorem dX11_cast_27 : decode cX11_cast 27 = .ok (.if_icmp .lt 6, 3) := by decide +kernel
theorem dX11_cast_33 : decode cX11_cast 33 = .ok (.iload_n 2, 1) := by decide +kernel
theorem dX11_cast_34 : decode cX11_cast 34 = .ok (.ifCond .ge 9, 3) := by decide +kernel
theorem dX11_cast_37 : decode cX11_cast 37 = .ok (.aload_n 0, 1) := by decide +kernel
theorem dX11_cast_38 : decode cX11_cast 38 = .ok (.iconst 5, 1) := by decide +kernel
theorem dX11_cast_39 : decode cX11_cast 39 = .ok (.invokevirtual 128, 3) := by decide +kernel
theorem dX11_cast_42 : decode cX11_cast 42 = .ok (.ireturn, 1) := by decide +kernel
theorem dX11_cast_43 : decode cX11_cast 43 = .ok (.aload_n 0, 1) := by decide +kernel
theorem dX11_cast_44 : decode cX11_cast 44 = .ok (.getfield 60, 3) := by decide +kernel
theorem dX11_cast_47 : decode cX11_cast 47 = .ok (.iload_n 1, 1) := by decide +kernel
theorem dX11_cast_48 : decode cX11_cast 48 = .ok (.iload_n 2, 1) := by decide +kernel
theorem dX11_cast_49 : decode cX11_cast 49 = .ok (.invokevirtual 337, 3) := by decide +kernel
theorem dX11_cast_52 : decode cX11_cast 52 = .ok (.ireturn, 1) := by decide +kernel
set_option maxRecDepth 20000 in
theorem ggX11_role_X11_isBelow : GoodIn wsX11_role wsX11_isBelow := goodIn_r _ [10] (by decide +kernel) (by decide +kernel)
set_option maxRecDepth 20000 in
theorem gX11_role_X11_isBelow : GoodIn wsX11_role (va_wsS RX11 91 yX11_isBelow wsX11_isBelow) := goodIn_app (goodIn_of _ (by decide +kernel)) ggX11_role_X11_isBelow
theorem dX11_role_0 : decode cX11_role 0 = .ok (.iload_n 1, 1) := by decide +kernel
theorem dX11_role_1 : decode cX11_role 1 = .ok (.aload_n 0, 1) := by decide +kernel
theorem dX11_role_2 : decode cX11_role 2 = .ok (.getfield 60, 3) := by decide +kernel
theorem dX11_role_5 : decode cX11_role 5 = .ok (.getfield 334, 3) := by decide +kernel
theorem dX11_role_8 : decode cX11_role 8 = .ok (.invokestatic 91, 3) := by decide +kernel
theorem dX11_role_11 : decode cX11_role 11 = .ok (.ifCond .eq 20, 3) := by decide +kernel
theorem dX11_role_31 : decode cX11_role 31 = .ok (.iconst (-1), 1) := by decide +kernel
theorem dX11_role_32 : decode cX11_role 32 = .ok (.ireturn, 1) := by decide +kernel
set_option maxRecDepth 20000 in
theorem ggX11_who_X11_isBelow : GoodIn wsX11_who wsX11_isBelow := goodIn_r _ [8] (by decide +kernel) (by decide +kernel)
set_option maxRecDepth 20000 in
theorem gX11_who_X11_isBelow : GoodIn wsX11_who (va_wsS RX11 91 yX11_isBelow wsX11_isBelow) := goodIn_app (goodIn_of _ (by decide +kernel)) ggX11_who_X11_isBelow
theorem dX11_who_0 : decode cX11_who 0 = .ok (.iload_n 1, 1) := by decide +kernel
theorem dX11_who_1 : decode cX11_who 1 = .ok (.aload_n 0, 1) := by decide +kernel
theorem dX11_who_2 : decode cX11_who 2 = .ok (.getfield 60, 3) := by decide +kernel
theorem dX11_who_5 : decode cX11_who 5 = .ok (.getfield 334, 3) := by decide +kernel
theorem dX11_who_8 : decode cX11_who 8 = .ok (.invokestatic 91, 3) := by decide +kernel
theorem dX11_who_11 : decode cX11_who 11 = .ok (.ifCond .ne 5, 3) := by decide +kernel
theorem dX11_who_14 : decode cX11_who 14 = .ok (.iconst (-1), 1) := by decide +kernel
theorem dX11_who_15 : decode cX11_who 15 = .ok (.ireturn, 1) := by decide +kernel
theorem dX11_count_0 : decode cX11_count 0 = .ok (.iload_n 1, 1) := by decide +kernel
theorem dX11_count_1 : decode cX11_count 1 = .ok (.tableswitch 154 0 7 #[47, 57, 67, 77, 87, 97, 107, 132], 47) := by decide +kernel
theorem dX11_count_48 : decode cX11_count 48 = .ok (.aload_n 0, 1) := by decide +kernel
theorem dX11_count_49 : decode cX11_count 49 = .ok (.getfield 10, 3) := by decide +kernel
theorem dX11_count_52 : decode cX11_count 52 = .ok (.getfield 84, 3) := by decide +kernel
theorem dX11_count_55 : decode cX11_count 55 = .ok (.goto 101, 3) := by decide +kernel
theorem dX11_count_58 : decode cX11_count 58 = .ok (.aload_n 0, 1) := by decide +kernel
theorem dX11_count_59 : decode cX11_count 59 = .ok (.getfield 10, 3) := by decide +kernel
theorem dX11_count_62 : decode cX11_count 62 = .ok (.getfield 102, 3) := by decide +kernel
theorem dX11_count_65 : decode cX11_count 65 = .ok (.goto 91, 3) := by decide +kernel
theorem dX11_count_68 : decode cX11_count 68 = .ok (.aload_n 0, 1) := by decide +kernel
theorem dX11_count_69 : decode cX11_count 69 = .ok (.getfield 21, 3) := by decide +kernel
theorem dX11_count_72 : decode cX11_count 72 = .ok (.getfield 191, 3) := by decide +kernel
theorem dX11_count_75 : decode cX11_count 75 = .ok (.goto 81, 3) := by decide +kernel
theorem dX11_count_78 : decode cX11_count 78 = .ok (.aload_n 0, 1) := by decide +kernel
theorem dX11_count_79 : decode cX11_count 79 = .ok (.getfield 21, 3) := by decide +kernel
theorem dX11_count_82 : decode cX11_count 82 = .ok (.getfield 168, 3) := by decide +kernel
theorem dX11_count_85 : decode cX11_count 85 = .ok (.goto 71, 3) := by decide +kernel
theorem dX11_count_88 : decode cX11_count 88 = .ok (.aload_n 0, 1) := by decide +kernel
theorem dX11_count_89 : decode cX11_count 89 = .ok (.getfield 60, 3) := by decide +kernel
theorem dX11_count_92 : decode cX11_count 92 = .ok (.getfield 334, 3) := by decide +kernel
theorem dX11_count_95 : decode cX11_count 95 = .ok (.goto 61, 3) := by decide +kernel
theorem dX11_count_98 : decode cX11_count 98 = .ok (.aload_n 0, 1) := by decide +kernel
theorem dX11_count_99 : decode cX11_count 99 = .ok (.getfield 46, 3) := by decide +kernel
theorem dX11_count_102 : decode cX11_count 102 = .ok (.getfield 254, 3) := by decide +kernel
theorem dX11_count_105 : decode cX11_count 105 = .ok (.goto 51, 3) := by decide +kernel
theorem dX11_count_108 : decode cX11_count 108 = .ok (.aload_n 0, 1) := by decide +kernel
theorem dX11_count_109 : decode cX11_count 109 = .ok (.getfield 46, 3) := by decide +kernel
theorem dX11_count_112 : decode cX11_count 112 = .ok (.getfield 257, 3) := by decide +kernel
theorem dX11_count_115 : decode cX11_count 115 = .ok (.ifCond .eq 13, 3) := by decide +kernel
theorem dX11_count_128 : decode cX11_count 128 = .ok (.bipush (-9), 2) := by decide +kernel
theorem dX11_count_130 : decode cX11_count 130 = .ok (.goto 26, 3) := by decide +kernel
theorem dX11_count_133 : decode cX11_count 133 = .ok (.aload_n 0, 1) := by decide +kernel
theorem dX11_count_134 : decode cX11_count 134 = .ok (.getfield 64, 3) := by decide +kernel
theorem dX11_count_137 : decode cX11_count 137 = .ok (.ifnonnull 8, 3) := by decide +kernel
theorem dX11_count_140 : decode cX11_count 140 = .ok (.bipush (-9), 2) := by decide +kernel
theorem dX11_count_142 : decode cX11_count 142 = .ok (.goto 14, 3) := by decide +kernel
theorem dX11_count_155 : decode cX11_count 155 = .ok (.iconst (-1), 1) := by decide +kernel
theorem dX11_count_156 : decode cX11_count 156 = .ok (.ireturn, 1) := by decide +kernel
theorem dX11_finding_0 : decode cX11_finding 0 = .ok (.aload_n 0, 1) := by decide +kernel
theorem dX11_finding_1 : decode cX11_finding 1 = .ok (.getfield 72, 3) := by decide +kernel
theorem dX11_finding_4 : decode cX11_finding 4 = .ok (.ireturn, 1) := by decide +kernel
theorem dX11_findings_0 : decode cX11_findings 0 = .ok (.iload_n 1, 1) := by decide +kernel
theorem dX11_findings_1 : decode cX11_findings 1 = .ok (.iconst 1, 1) := by decide +kernel
theorem dX11_findings_2 : decode cX11_findings 2 = .ok (.if_icmp .lt 9, 3) := by decide +kernel
theorem dX11_findings_5 : decode cX11_findings 5 = .ok (.iload_n 1, 1) := by decide +kernel
theorem dX11_findings_6 : decode cX11_findings 6 = .ok (.bipush 6, 2) := by decide +kernel
theorem dX11_findings_8 : decode cX11_findings 8 = .ok (.if_icmp .le 7, 3) := by decide +kernel
theorem dX11_findings_11 : decode cX11_findings 11 = .ok (.iconst (-1), 1) := by decide +kernel
theorem dX11_findings_12 : decode cX11_findings 12 = .ok (.goto 9, 3) := by decide +kernel
theorem dX11_findings_15 : decode cX11_findings 15 = .ok (.aload_n 0, 1) := by decide +kernel
theorem dX11_findings_16 : decode cX11_findings 16 = .ok (.getfield 68, 3) := by decide +kernel
theorem dX11_findings_19 : decode cX11_findings 19 = .ok (.iload_n 1, 1) := by decide +kernel
theorem dX11_findings_20 : decode cX11_findings 20 = .ok (.iaload, 1) := by decide +kernel
theorem dX11_findings_21 : decode cX11_findings 21 = .ok (.ireturn, 1) := by decide +kernel
set_option maxRecDepth 20000 in
theorem ggX11_digest_X11_digestKinds : GoodIn wsX11_digest wsX11_digestKinds := goodIn_r _ [6, 7, 8, 9, 10, 11, 85, 86, 87, 88, 89, 90, 91, 92, 93, 94, 95, 96, 97, 98, 99, 100, 101, 102] (by decide +kernel) (by decide +kernel)
set_option maxRecDepth 20000 in
theorem gX11_digest_X11_digestKinds : GoodIn wsX11_digest (wsV RX11 352 RX11 yX11_digestKinds wsX11_digestKinds) := goodIn_app (goodIn_of _ (by decide +kernel)) ggX11_digest_X11_digestKinds
set_option maxRecDepth 20000 in
theorem ggX11_digest_X11_digestObjects : GoodIn wsX11_digest wsX11_digestObjects := goodIn_r _ [15, 7, 16, 9, 17, 18, 19, 20, 21, 22, 23, 24, 25, 26, 27, 28, 29, 30, 31, 32, 33, 34, 35, 36, 37, 38, 39, 40, 41, 42, 43, 44, 45, 46, 47, 48, 49, 50, 51, 52, 53, 54, 55, 56, 57, 58, 59, 60, 61, 5, 62, 63, 64, 65, 66, 67, 68, 69, 85, 86, 87, 88, 89, 90, 91, 92, 93, 94, 95, 96, 97, 98, 99, 100, 101, 102, 103, 104, 105, 106, 107, 108, 109, 110, 111, 112, 113, 114, 115, 116, 117, 118, 119, 120, 121, 122, 123, 124, 125, 126, 127, 128, 129, 130, 131, 132, 133, 134, 135, 136] (by decide +kernel) (by decide +kernel)
set_option maxRecDepth 20000 in
theorem gX11_digest_X11_digestObjects : GoodIn wsX11_digest (wsV RX11 356 RX11 yX11_digestObjects wsX11_digestObjects) := goodIn_app (goodIn_of _ (by decide +kernel)) ggX11_digest_X11_digestObjects
set_option maxRecDepth 20000 in
theorem ggX11_digest_X11_digestSentences : GoodIn wsX11_digest wsX11_digestSentences := goodIn_r _ [73, 19, 74, 9, 75, 76, 77, 78, 79, 80, 81, 82, 83, 84, 61, 5, 62, 85, 86, 87, 88, 89, 90, 91, 92, 93, 94, 95, 103, 104, 105, 106, 107, 108, 109, 110, 111, 112, 113, 114, 115, 116, 117] (by decide +kernel) (by decide +kernel)
set_option maxRecDepth 20000 in
theorem gX11_digest_X11_digestSentences : GoodIn wsX11_digest (wsV RX11 359 RX11 yX11_digestSentences wsX11_digestSentences) := goodIn_app (goodIn_of _ (by decide +kernel)) ggX11_digest_X11_digestSentences
theorem dX11_digest_0 : decode cX11_digest 0 = .ok (.aload_n 0, 1) := by decide +kernel
theorem dX11_digest_1 : decode cX11_digest 1 = .ok (.aload_n 0, 1) := by decide +kernel
theorem dX11_digest_2 : decode cX11_digest 2 = .ok (.aload_n 0, 1) := by decide +kernel
theorem dX11_digest_3 : decode cX11_digest 3 = .ok (.ldc2_w 350, 3) := by decide +kernel
theorem dX11_digest_6 : decode cX11_digest 6 = .ok (.invokevirtual 352, 3) := by decide +kernel
theorem dX11_digest_9 : decode cX11_digest 9 = .ok (.invokevirtual 356, 3) := by decide +kernel
theorem dX11_digest_12 : decode cX11_digest 12 = .ok (.invokevirtual 359, 3) := by decide +kernel
theorem dX11_digest_15 : decode cX11_digest 15 = .ok (.lreturn, 1) := by decide +kernel
theorem dX11_digestKinds_0 : decode cX11_digestKinds 0 = .ok (.lload_n 1, 1) := by decide +kernel
theorem dX11_digestKinds_1 : decode cX11_digestKinds 1 = .ok (.lstore_n 3, 1) := by decide +kernel
theorem dX11_digestKinds_2 : decode cX11_digestKinds 2 = .ok (.iconst 0, 1) := by decide +kernel
theorem dX11_digestKinds_3 : decode cX11_digestKinds 3 = .ok (.istore 5, 2) := by decide +kernel
theorem dX11_digestKinds_5 : decode cX11_digestKinds 5 = .ok (.iload 5, 2) := by decide +kernel
theorem dX11_digestKinds_7 : decode cX11_digestKinds 7 = .ok (.aload_n 0, 1) := by decide +kernel
theorem dX11_digestKinds_8 : decode cX11_digestKinds 8 = .ok (.getfield 10, 3) := by decide +kernel
theorem dX11_digestKinds_11 : decode cX11_digestKinds 11 = .ok (.getfield 84, 3) := by decide +kernel
theorem dX11_digestKinds_14 : decode cX11_digestKinds 14 = .ok (.if_icmp .ge 67, 3) := by decide +kernel
theorem dX11_digestKinds_17 : decode cX11_digestKinds 17 = .ok (.ldc2_w 362, 3) := by decide +kernel
theorem dX11_digestKinds_20 : decode cX11_digestKinds 20 = .ok (.lload_n 3, 1) := by decide +kernel
theorem dX11_digestKinds_21 : decode cX11_digestKinds 21 = .ok (.lmul, 1) := by decide +kernel
theorem dX11_digestKinds_22 : decode cX11_digestKinds 22 = .ok (.aload_n 0, 1) := by decide +kernel
theorem dX11_digestKinds_23 : decode cX11_digestKinds 23 = .ok (.getfield 10, 3) := by decide +kernel
theorem dX11_digestKinds_26 : decode cX11_digestKinds 26 = .ok (.getfield 364, 3) := by decide +kernel
theorem dX11_digestKinds_29 : decode cX11_digestKinds 29 = .ok (.iload 5, 2) := by decide +kernel
theorem dX11_digestKinds_31 : decode cX11_digestKinds 31 = .ok (.iaload, 1) := by decide +kernel
theorem dX11_digestKinds_32 : decode cX11_digestKinds 32 = .ok (.i2l, 1) := by decide +kernel
theorem dX11_digestKinds_33 : decode cX11_digestKinds 33 = .ok (.ladd, 1) := by decide +kernel
theorem dX11_digestKinds_34 : decode cX11_digestKinds 34 = .ok (.lstore_n 3, 1) := by decide +kernel
theorem dX11_digestKinds_35 : decode cX11_digestKinds 35 = .ok (.iconst 0, 1) := by decide +kernel
theorem dX11_digestKinds_36 : decode cX11_digestKinds 36 = .ok (.istore 6, 2) := by decide +kernel
theorem dX11_digestKinds_38 : decode cX11_digestKinds 38 = .ok (.iload 6, 2) := by decide +kernel
theorem dX11_digestKinds_40 : decode cX11_digestKinds 40 = .ok (.bipush 6, 2) := by decide +kernel
theorem dX11_digestKinds_42 : decode cX11_digestKinds 42 = .ok (.if_icmp .ge 33, 3) := by decide +kernel
theorem dX11_digestKinds_45 : decode cX11_digestKinds 45 = .ok (.ldc2_w 362, 3) := by decide +kernel
theorem dX11_digestKinds_48 : decode cX11_digestKinds 48 = .ok (.lload_n 3, 1) := by decide +kernel
theorem dX11_digestKinds_49 : decode cX11_digestKinds 49 = .ok (.lmul, 1) := by decide +kernel
theorem dX11_digestKinds_50 : decode cX11_digestKinds 50 = .ok (.aload_n 0, 1) := by decide +kernel
theorem dX11_digestKinds_51 : decode cX11_digestKinds 51 = .ok (.getfield 10, 3) := by decide +kernel
theorem dX11_digestKinds_54 : decode cX11_digestKinds 54 = .ok (.getfield 367, 3) := by decide +kernel
theorem dX11_digestKinds_57 : decode cX11_digestKinds 57 = .ok (.iload 5, 2) := by decide +kernel
theorem dX11_digestKinds_59 : decode cX11_digestKinds 59 = .ok (.bipush 6, 2) := by decide +kernel
theorem dX11_digestKinds_61 : decode cX11_digestKinds 61 = .ok (.imul, 1) := by decide +kernel
theorem dX11_digestKinds_62 : decode cX11_digestKinds 62 = .ok (.iload 6, 2) := by decide +kernel
theorem dX11_digestKinds_64 : decode cX11_digestKinds 64 = .ok (.iadd, 1) := by decide +kernel
theorem dX11_digestKinds_65 : decode cX11_digestKinds 65 = .ok (.iaload, 1) := by decide +kernel
theorem dX11_digestKinds_66 : decode cX11_digestKinds 66 = .ok (.i2l, 1) := by decide +kernel
theorem dX11_digestKinds_67 : decode cX11_digestKinds 67 = .ok (.ladd, 1) := by decide +kernel
theorem dX11_digestKinds_68 : decode cX11_digestKinds 68 = .ok (.lstore_n 3, 1) := by decide +kernel
theorem dX11_digestKinds_69 : decode cX11_digestKinds 69 = .ok (.iinc 6 1, 3) := by decide +kernel
theorem dX11_digestKinds_72 : decode cX11_digestKinds 72 = .ok (.goto (-34), 3) := by decide +kernel
theorem dX11_digestKinds_75 : decode cX11_digestKinds 75 = .ok (.iinc 5 1, 3) := by decide +kernel
theorem dX11_digestKinds_78 : decode cX11_digestKinds 78 = .ok (.goto (-73), 3) := by decide +kernel
theorem dX11_digestKinds_81 : decode cX11_digestKinds 81 = .ok (.lload_n 3, 1) := by decide +kernel
theorem dX11_digestKinds_82 : decode cX11_digestKinds 82 = .ok (.lreturn, 1) := by decide +kernel
theorem dX11_digestObjects_0 : decode cX11_digestObjects 0 = .ok (.lload_n 1, 1) := by decide +kernel
theorem dX11_digestObjects_1 : decode cX11_digestObjects 1 = .ok (.lstore_n 3, 1) := by decide +kernel
theorem dX11_digestObjects_2 : decode cX11_digestObjects 2 = .ok (.iconst 0, 1) := by decide +kernel
theorem dX11_digestObjects_3 : decode cX11_digestObjects 3 = .ok (.istore 5, 2) := by decide +kernel
theorem dX11_digestObjects_5 : decode cX11_digestObjects 5 = .ok (.iload 5, 2) := by decide +kernel
theorem dX11_digestObjects_7 : decode cX11_digestObjects 7 = .ok (.aload_n 0, 1) := by decide +kernel
theorem dX11_digestObjects_8 : decode cX11_digestObjects 8 = .ok (.getfield 10, 3) := by decide +kernel
theorem dX11_digestObjects_11 : decode cX11_digestObjects 11 = .ok (.getfield 102, 3) := by decide +kernel
theorem dX11_digestObjects_14 : decode cX11_digestObjects 14 = .ok (.if_icmp .ge 130, 3) := by decide +kernel
theorem dX11_digestObjects_144 : decode cX11_digestObjects 144 = .ok (.lload_n 3, 1) := by decide +kernel
theorem dX11_digestObjects_145 : decode cX11_digestObjects 145 = .ok (.lreturn, 1) := by decide +kernel
theorem dX11_digestSentences_0 : decode cX11_digestSentences 0 = .ok (.lload_n 1, 1) := by decide +kernel
theorem dX11_digestSentences_1 : decode cX11_digestSentences 1 = .ok (.lstore_n 3, 1) := by decide +kernel
theorem dX11_digestSentences_2 : decode cX11_digestSentences 2 = .ok (.iconst 0, 1) := by decide +kernel
theorem dX11_digestSentences_3 : decode cX11_digestSentences 3 = .ok (.istore 5, 2) := by decide +kernel
theorem dX11_digestSentences_5 : decode cX11_digestSentences 5 = .ok (.iload 5, 2) := by decide +kernel
theorem dX11_digestSentences_7 : decode cX11_digestSentences 7 = .ok (.aload_n 0, 1) := by decide +kernel
theorem dX11_digestSentences_8 : decode cX11_digestSentences 8 = .ok (.getfield 21, 3) := by decide +kernel
theorem dX11_digestSentences_11 : decode cX11_digestSentences 11 = .ok (.getfield 168, 3) := by decide +kernel
theorem dX11_digestSentences_14 : decode cX11_digestSentences 14 = .ok (.if_icmp .ge 43, 3) := by decide +kernel
theorem dX11_digestSentences_57 : decode cX11_digestSentences 57 = .ok (.lload_n 3, 1) := by decide +kernel
theorem dX11_digestSentences_58 : decode cX11_digestSentences 58 = .ok (.lreturn, 1) := by decide +kernel
theorem dX11_answerFinding_0 : decode cX11_answerFinding 0 = .ok (.aload_n 0, 1) := by decide +kernel
theorem dX11_answerFinding_1 : decode cX11_answerFinding 1 = .ok (.iload_n 1, 1) := by decide +kernel
theorem dX11_answerFinding_2 : decode cX11_answerFinding 2 = .ok (.putfield 72, 3) := by decide +kernel
theorem dX11_answerFinding_5 : decode cX11_answerFinding 5 = .ok (.aload_n 0, 1) := by decide +kernel
theorem dX11_answerFinding_6 : decode cX11_answerFinding 6 = .ok (.getfield 68, 3) := by decide +kernel
theorem dX11_answerFinding_9 : decode cX11_answerFinding 9 = .ok (.iload_n 1, 1) := by decide +kernel
theorem dX11_answerFinding_10 : decode cX11_answerFinding 10 = .ok (.dup2, 1) := by decide +kernel
theorem dX11_answerFinding_11 : decode cX11_answerFinding 11 = .ok (.iaload, 1) := by decide +kernel
theorem dX11_answerFinding_12 : decode cX11_answerFinding 12 = .ok (.iconst 1, 1) := by decide +kernel
theorem dX11_answerFinding_13 : decode cX11_answerFinding 13 = .ok (.iadd, 1) := by decide +kernel
theorem dX11_answerFinding_14 : decode cX11_answerFinding 14 = .ok (.iastore, 1) := by decide +kernel
theorem dX11_answerFinding_15 : decode cX11_answerFinding 15 = .ok (.bipush (-3), 2) := by decide +kernel
theorem dX11_answerFinding_17 : decode cX11_answerFinding 17 = .ok (.ireturn, 1) := by decide +kernel
set_option maxRecDepth 20000 in
theorem ggX11_refuseRooms_X10_hasObject : GoodIn wsX11_refuseRooms wsX10_hasObject := goodIn_r _ [6, 7, 32, 33, 34, 35, 36, 37, 38] (by decide +kernel) (by decide +kernel)
set_option maxRecDepth 20000 in
theorem gX11_refuseRooms_X10_hasObject : GoodIn wsX11_refuseRooms (wsV RX11 109 RX10 yX10_hasObject wsX10_hasObject) := goodIn_app (goodIn_of _ (by decide +kernel)) ggX11_refuseRooms_X10_hasObject
theorem dX11_refuseRooms_0 : decode cX11_refuseRooms 0 = .ok (.aload_n 0, 1) := by decide +kernel
theorem dX11_refuseRooms_1 : decode cX11_refuseRooms 1 = .ok (.getfield 10, 3) := by decide +kernel
theorem dX11_refuseRooms_4 : decode cX11_refuseRooms 4 = .ok (.iload_n 1, 1) := by decide +kernel
theorem dX11_refuseRooms_5 : decode cX11_refuseRooms 5 = .ok (.invokevirtual 109, 3) := by decide +kernel
theorem dX11_refuseRooms_8 : decode cX11_refuseRooms 8 = .ok (.ifCond .eq 14, 3) := by decide +kernel
theorem dX11_refuseRooms_22 : decode cX11_refuseRooms 22 = .ok (.iconst (-1), 1) := by decide +kernel
theorem dX11_refuseRooms_23 : decode cX11_refuseRooms 23 = .ok (.ireturn, 1) := by decide +kernel
set_option maxRecDepth 20000 in
theorem ggX11_refuseItem_X10_hasObject : GoodIn wsX11_refuseItem wsX10_hasObject := goodIn_r _ [9, 10, 41, 42, 43, 44, 45, 46, 47] (by decide +kernel) (by decide +kernel)
set_option maxRecDepth 20000 in
theorem gX11_refuseItem_X10_hasObject : GoodIn wsX11_refuseItem (wsV RX11 109 RX10 yX10_hasObject wsX10_hasObject) := goodIn_app (goodIn_of _ (by decide +kernel)) ggX11_refuseItem_X10_hasObject
theorem dX11_refuseItem_0 : decode cX11_refuseItem 0 = .ok (.aload_n 0, 1) := by decide +kernel
theorem dX11_refuseItem_1 : decode cX11_refuseItem 1 = .ok (.getfield 10, 3) := by decide +kernel
theorem dX11_refuseItem_4 : decode cX11_refuseItem 4 = .ok (.iload_n 1, 1) := by decide +kernel
theorem dX11_refuseItem_5 : decode cX11_refuseItem 5 = .ok (.invokevirtual 109, 3) := by decide +kernel
theorem dX11_refuseItem_8 : decode cX11_refuseItem 8 = .ok (.ifCond .eq 11, 3) := by decide +kernel
theorem dX11_refuseItem_19 : decode cX11_refuseItem 19 = .ok (.iconst (-1), 1) := by decide +kernel
theorem dX11_refuseItem_20 : decode cX11_refuseItem 20 = .ok (.ireturn, 1) := by decide +kernel
theorem dX11_isBelow_0 : decode cX11_isBelow 0 = .ok (.iload_n 0, 1) := by decide +kernel
theorem dX11_isBelow_1 : decode cX11_isBelow 1 = .ok (.ifCond .lt 12, 3) := by decide +kernel
theorem dX11_isBelow_4 : decode cX11_isBelow 4 = .ok (.iload_n 0, 1) := by decide +kernel
theorem dX11_isBelow_5 : decode cX11_isBelow 5 = .ok (.iload_n 1, 1) := by decide +kernel
theorem dX11_isBelow_6 : decode cX11_isBelow 6 = .ok (.if_icmp .ge 7, 3) := by decide +kernel
theorem dX11_isBelow_9 : decode cX11_isBelow 9 = .ok (.iconst 1, 1) := by decide +kernel
theorem dX11_isBelow_10 : decode cX11_isBelow 10 = .ok (.goto 4, 3) := by decide +kernel
theorem dX11_isBelow_13 : decode cX11_isBelow 13 = .ok (.iconst 0, 1) := by decide +kernel
theorem dX11_isBelow_14 : decode cX11_isBelow 14 = .ok (.ireturn, 1) := by decide +kernel
theorem dX12_init_0 : decode cX12_init 0 = .ok (.aload_n 0, 1) := by decide +kernel
theorem dX12_init_1 : decode cX12_init 1 = .ok (.invokespecial 1, 3) := by decide +kernel
theorem dX12_init_4 : decode cX12_init 4 = .ok (.aload_n 0, 1) := by decide +kernel
theorem dX12_init_5 : decode cX12_init 5 = .ok (.bipush 7, 2) := by decide +kernel
theorem dX12_init_7 : decode cX12_init 7 = .ok (.newarray .int, 2) := by decide +kernel
theorem dX12_init_9 : decode cX12_init 9 = .ok (.putfield 7, 3) := by decide +kernel
theorem dX12_init_12 : decode cX12_init 12 = .ok (.aload_n 0, 1) := by decide +kernel
theorem dX12_init_13 : decode cX12_init 13 = .ok (.bipush 24, 2) := by decide +kernel
theorem dX12_init_15 : decode cX12_init 15 = .ok (.newarray .int, 2) := by decide +kernel
theorem dX12_init_17 : decode cX12_init 17 = .ok (.putfield 13, 3) := by decide +kernel
theorem dX12_init_20 : decode cX12_init 20 = .ok (.aload_n 0, 1) := by decide +kernel
theorem dX12_init_21 : decode cX12_init 21 = .ok (.sipush 144, 3) := by decide +kernel
theorem dX12_init_24 : decode cX12_init 24 = .ok (.newarray .int, 2) := by decide +kernel
theorem dX12_init_26 : decode cX12_init 26 = .ok (.putfield 16, 3) := by decide +kernel
theorem dX12_init_29 : decode cX12_init 29 = .ok (.aload_n 0, 1) := by decide +kernel
theorem dX12_init_30 : decode cX12_init 30 = .ok (.bipush 30, 2) := by decide +kernel
theorem dX12_init_32 : decode cX12_init 32 = .ok (.newarray .int, 2) := by decide +kernel
theorem dX12_init_34 : decode cX12_init 34 = .ok (.putfield 19, 3) := by decide +kernel
theorem dX12_init_37 : decode cX12_init 37 = .ok (.aload_n 0, 1) := by decide +kernel
theorem dX12_init_38 : decode cX12_init 38 = .ok (.bipush 30, 2) := by decide +kernel
theorem dX12_init_40 : decode cX12_init 40 = .ok (.newarray .int, 2) := by decide +kernel
theorem dX12_init_42 : decode cX12_init 42 = .ok (.putfield 22, 3) := by decide +kernel
theorem dX12_init_45 : decode cX12_init 45 = .ok (.aload_n 0, 1) := by decide +kernel
theorem dX12_init_46 : decode cX12_init 46 = .ok (.sipush 200, 3) := by decide +kernel
theorem dX12_init_49 : decode cX12_init 49 = .ok (.newarray .int, 2) := by decide +kernel
theorem dX12_init_51 : decode cX12_init 51 = .ok (.putfield 25, 3) := by decide +kernel
theorem dX12_init_54 : decode cX12_init 54 = .ok (.aload_n 0, 1) := by decide +kernel
theorem dX12_init_55 : decode cX12_init 55 = .ok (.sipush 200, 3) := by decide +kernel
theorem dX12_init_58 : decode cX12_init 58 = .ok (.newarray .int, 2) := by decide +kernel
theorem dX12_init_60 : decode cX12_init 60 = .ok (.putfield 28, 3) := by decide +kernel
theorem dX12_init_63 : decode cX12_init 63 = .ok (.aload_n 0, 1) := by decide +kernel
theorem dX12_init_64 : decode cX12_init 64 = .ok (.sipush 200, 3) := by decide +kernel
theorem dX12_init_67 : decode cX12_init 67 = .ok (.newarray .int, 2) := by decide +kernel
theorem dX12_init_69 : decode cX12_init 69 = .ok (.putfield 31, 3) := by decide +kernel
theorem dX12_init_72 : decode cX12_init 72 = .ok (.aload_n 0, 1) := by decide +kernel
theorem dX12_init_73 : decode cX12_init 73 = .ok (.sipush 200, 3) := by decide +kernel
theorem dX12_init_76 : decode cX12_init 76 = .ok (.newarray .int, 2) := by decide +kernel
theorem dX12_init_78 : decode cX12_init 78 = .ok (.putfield 34, 3) := by decide +kernel
theorem dX12_init_81 : decode cX12_init 81 = .ok (.aload_n 0, 1) := by decide +kernel
theorem dX12_init_82 : decode cX12_init 82 = .ok (.sipush 200, 3) := by decide +kernel
theorem dX12_init_85 : decode cX12_init 85 = .ok (.newarray .boolean, 2) := by decide +kernel
theorem dX12_init_87 : decode cX12_init 87 = .ok (.putfield 37, 3) := by decide +kernel
theorem dX12_init_90 : decode cX12_init 90 = .ok (.aload_n 0, 1) := by decide +kernel
theorem dX12_init_91 : decode cX12_init 91 = .ok (.sipush 200, 3) := by decide +kernel
theorem dX12_init_94 : decode cX12_init 94 = .ok (.newarray .int, 2) := by decide +kernel
theorem dX12_init_96 : decode cX12_init 96 = .ok (.putfield 41, 3) := by decide +kernel
theorem dX12_init_99 : decode cX12_init 99 = .ok (.aload_n 0, 1) := by decide +kernel
theorem dX12_init_100 : decode cX12_init 100 = .ok (.bipush 30, 2) := by decide +kernel
theorem dX12_init_102 : decode cX12_init 102 = .ok (.newarray .int, 2) := by decide +kernel
theorem dX12_init_104 : decode cX12_init 104 = .ok (.putfield 44, 3) := by decide +kernel
theorem dX12_init_107 : decode cX12_init 107 = .ok (.aload_n 0, 1) := by decide +kernel
theorem dX12_init_108 : decode cX12_init 108 = .ok (.bipush 30, 2) := by decide +kernel
theorem dX12_init_110 : decode cX12_init 110 = .ok (.newarray .int, 2) := by decide +kernel
theorem dX12_init_112 : decode cX12_init 112 = .ok (.putfield 47, 3) := by decide +kernel
theorem dX12_init_115 : decode cX12_init 115 = .ok (.aload_n 0, 1) := by decide +kernel
theorem dX12_init_116 : decode cX12_init 116 = .ok (.bipush 30, 2) := by decide +kernel
theorem dX12_init_118 : decode cX12_init 118 = .ok (.newarray .int, 2) := by decide +kernel
theorem dX12_init_120 : decode cX12_init 120 = .ok (.putfield 50, 3) := by decide +kernel
theorem dX12_init_123 : decode cX12_init 123 = .ok (.aload_n 0, 1) := by decide +kernel
theorem dX12_init_124 : decode cX12_init 124 = .ok (.bipush 30, 2) := by decide +kernel
