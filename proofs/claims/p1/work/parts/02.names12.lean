theorem dX12_saidMany_4 : decode cX12_saidMany 4 = .ok (.iload_n 2, 1) := by decide +kernel
theorem dX12_saidMany_5 : decode cX12_saidMany 5 = .ok (.aload_n 0, 1) := by decide +kernel
theorem dX12_saidMany_6 : decode cX12_saidMany 6 = .ok (.getfield 202, 3) := by decide +kernel
theorem dX12_saidMany_9 : decode cX12_saidMany 9 = .ok (.if_icmp .ge 26, 3) := by decide +kernel
theorem dX12_saidMany_35 : decode cX12_saidMany 35 = .ok (.iload_n 1, 1) := by decide +kernel
theorem dX12_saidMany_36 : decode cX12_saidMany 36 = .ok (.ireturn, 1) := by decide +kernel
set_option maxRecDepth 20000 in
theorem ggX12_unsay_X12_in : GoodIn wsX12_unsay wsX12_in := goodIn_r _ [6] (by decide +kernel) (by decide +kernel)
set_option maxRecDepth 20000 in
theorem gX12_unsay_X12_in : GoodIn wsX12_unsay (va_wsS RX12 166 yX12_in wsX12_in) := goodIn_app (goodIn_of _ (by decide +kernel)) ggX12_unsay_X12_in
theorem dX12_unsay_0 : decode cX12_unsay 0 = .ok (.iload_n 1, 1) := by decide +kernel
theorem dX12_unsay_1 : decode cX12_unsay 1 = .ok (.i2l, 1) := by decide +kernel
theorem dX12_unsay_2 : decode cX12_unsay 2 = .ok (.lconst 0, 1) := by decide +kernel
theorem dX12_unsay_3 : decode cX12_unsay 3 = .ok (.aload_n 0, 1) := by decide +kernel
theorem dX12_unsay_4 : decode cX12_unsay 4 = .ok (.getfield 202, 3) := by decide +kernel
theorem dX12_unsay_7 : decode cX12_unsay 7 = .ok (.iconst 1, 1) := by decide +kernel
theorem dX12_unsay_8 : decode cX12_unsay 8 = .ok (.isub, 1) := by decide +kernel
theorem dX12_unsay_9 : decode cX12_unsay 9 = .ok (.i2l, 1) := by decide +kernel
theorem dX12_unsay_10 : decode cX12_unsay 10 = .ok (.invokestatic 166, 3) := by decide +kernel
theorem dX12_unsay_13 : decode cX12_unsay 13 = .ok (.ifCond .eq 12, 3) := by decide +kernel
theorem dX12_unsay_25 : decode cX12_unsay 25 = .ok (.iconst (-1), 1) := by decide +kernel
theorem dX12_unsay_26 : decode cX12_unsay 26 = .ok (.ireturn, 1) := by decide +kernel
set_option maxRecDepth 20000 in
theorem ggX12_clash_X12_in : GoodIn wsX12_clash wsX12_in := goodIn_r _ [6] (by decide +kernel) (by decide +kernel)
set_option maxRecDepth 20000 in
theorem gX12_clash_X12_in : GoodIn wsX12_clash (va_wsS RX12 166 yX12_in wsX12_in) := goodIn_app (goodIn_of _ (by decide +kernel)) ggX12_clash_X12_in
theorem dX12_clash_0 : decode cX12_clash 0 = .ok (.iload_n 1, 1) := by decide +kernel
theorem dX12_clash_1 : decode cX12_clash 1 = .ok (.i2l, 1) := by decide +kernel
theorem dX12_clash_2 : decode cX12_clash 2 = .ok (.lconst 0, 1) := by decide +kernel
theorem dX12_clash_3 : decode cX12_clash 3 = .ok (.aload_n 0, 1) := by decide +kernel
theorem dX12_clash_4 : decode cX12_clash 4 = .ok (.getfield 205, 3) := by decide +kernel
theorem dX12_clash_7 : decode cX12_clash 7 = .ok (.iconst 1, 1) := by decide +kernel
theorem dX12_clash_8 : decode cX12_clash 8 = .ok (.isub, 1) := by decide +kernel
theorem dX12_clash_9 : decode cX12_clash 9 = .ok (.i2l, 1) := by decide +kernel
theorem dX12_clash_10 : decode cX12_clash 10 = .ok (.invokestatic 166, 3) := by decide +kernel
theorem dX12_clash_13 : decode cX12_clash 13 = .ok (.ifCond .eq 12, 3) := by decide +kernel
theorem dX12_clash_25 : decode cX12_clash 25 = .ok (.bipush (-9), 2) := by decide +kernel
theorem dX12_clash_27 : decode cX12_clash 27 = .ok (.ireturn, 1) := by decide +kernel
set_option maxRecDepth 20000 in
theorem ggX12_sentence_X12_in : GoodIn wsX12_sentence wsX12_in := goodIn_r _ [11] (by decide +kernel) (by decide +kernel)
set_option maxRecDepth 20000 in
theorem gX12_sentence_X12_in : GoodIn wsX12_sentence (va_wsS RX12 166 yX12_in wsX12_in) := goodIn_app (goodIn_of _ (by decide +kernel)) ggX12_sentence_X12_in
theorem dX12_sentence_0 : decode cX12_sentence 0 = .ok (.iload_n 1, 1) := by decide +kernel
theorem dX12_sentence_1 : decode cX12_sentence 1 = .ok (.i2l, 1) := by decide +kernel
theorem dX12_sentence_2 : decode cX12_sentence 2 = .ok (.lconst 0, 1) := by decide +kernel
theorem dX12_sentence_3 : decode cX12_sentence 3 = .ok (.aload_n 0, 1) := by decide +kernel
theorem dX12_sentence_4 : decode cX12_sentence 4 = .ok (.getfield 202, 3) := by decide +kernel
theorem dX12_sentence_7 : decode cX12_sentence 7 = .ok (.iconst 1, 1) := by decide +kernel
theorem dX12_sentence_8 : decode cX12_sentence 8 = .ok (.isub, 1) := by decide +kernel
theorem dX12_sentence_9 : decode cX12_sentence 9 = .ok (.i2l, 1) := by decide +kernel
theorem dX12_sentence_10 : decode cX12_sentence 10 = .ok (.invokestatic 166, 3) := by decide +kernel
theorem dX12_sentence_13 : decode cX12_sentence 13 = .ok (.ifCond .eq 15, 3) := by decide +kernel
theorem dX12_sentence_28 : decode cX12_sentence 28 = .ok (.iconst (-1), 1) := by decide +kernel
theorem dX12_sentence_29 : decode cX12_sentence 29 = .ok (.ireturn, 1) := by decide +kernel
set_option maxRecDepth 20000 in
theorem ggX12_place_X12_isObject : GoodIn wsX12_place wsX12_isObject := goodIn_r _ [8, 9, 10, 11, 7, 12, 20, 21, 22, 23, 24, 25, 26, 27, 28, 29, 30, 31, 32, 33, 34, 35, 36, 37, 38, 39, 40, 41, 42, 43, 44, 45, 46, 47, 48, 49, 50, 51, 52, 53, 54, 55, 56, 57, 58, 59, 60, 61, 62, 63, 64, 65, 66, 67, 68, 69, 70, 71, 72, 73, 74, 75, 76, 77, 78, 79, 80, 81, 82, 83, 84, 85, 86, 87, 88] (by decide +kernel) (by decide +kernel)
set_option maxRecDepth 20000 in
theorem gX12_place_X12_isObject : GoodIn wsX12_place (wsV RX12 180 RX12 yX12_isObject wsX12_isObject) := goodIn_app (goodIn_of _ (by decide +kernel)) ggX12_place_X12_isObject
theorem dX12_place_0 : decode cX12_place 0 = .ok (.aload_n 0, 1) := by decide +kernel
theorem dX12_place_1 : decode cX12_place 1 = .ok (.iload_n 1, 1) := by decide +kernel
theorem dX12_place_2 : decode cX12_place 2 = .ok (.invokevirtual 180, 3) := by decide +kernel
theorem dX12_place_5 : decode cX12_place 5 = .ok (.ifCond .eq 15, 3) := by decide +kernel
theorem dX12_place_20 : decode cX12_place 20 = .ok (.iconst (-1), 1) := by decide +kernel
theorem dX12_place_21 : decode cX12_place 21 = .ok (.ireturn, 1) := by decide +kernel
set_option maxRecDepth 20000 in
theorem ggX12_flag_X12_isObject : GoodIn wsX12_flag wsX12_isObject := goodIn_r _ [6, 7, 8, 9, 5, 10, 54, 55, 56, 57, 58, 59, 60, 61, 62, 63, 64, 65, 66, 67, 68, 69, 70, 71, 72, 73, 74, 75, 76, 77, 78, 79, 80, 81, 82, 83, 84, 85, 86, 87, 88, 89, 90, 91, 92, 93, 94, 95, 96, 97, 98, 99, 100, 101, 102, 103, 104, 105, 106, 107, 108, 109, 110, 111, 112, 113, 114, 115, 116, 117, 118, 119, 120, 121, 122] (by decide +kernel) (by decide +kernel)
set_option maxRecDepth 20000 in
theorem gX12_flag_X12_isObject : GoodIn wsX12_flag (wsV RX12 180 RX12 yX12_isObject wsX12_isObject) := goodIn_app (goodIn_of _ (by decide +kernel)) ggX12_flag_X12_isObject
theorem dX12_flag_0 : decode cX12_flag 0 = .ok (.aload_n 0, 1) := by decide +kernel
theorem dX12_flag_1 : decode cX12_flag 1 = .ok (.iload_n 1, 1) := by decide +kernel
theorem dX12_flag_2 : decode cX12_flag 2 = .ok (.invokevirtual 180, 3) := by decide +kernel
theorem dX12_flag_5 : decode cX12_flag 5 = .ok (.ifCond .eq 15, 3) := by decide +kernel
theorem dX12_flag_20 : decode cX12_flag 20 = .ok (.iconst (-1), 1) := by decide +kernel
theorem dX12_flag_21 : decode cX12_flag 21 = .ok (.ireturn, 1) := by decide +kernel
set_option maxRecDepth 20000 in
theorem ggX12_key_X12_isObject : GoodIn wsX12_key wsX12_isObject := goodIn_r _ [5, 6, 7, 8, 4, 9, 35, 36, 37, 38, 39, 40, 41, 42, 43, 44, 45, 46, 47, 48, 49, 50, 51, 52, 53, 54, 55, 56, 57, 58, 59, 60, 61, 62, 63, 64, 65, 66, 67, 68, 69, 70, 71, 72, 73, 74, 75, 76, 77, 78, 79, 80, 81, 82, 83, 84, 85, 86, 87, 88, 89, 90, 91, 92, 93, 94, 95, 96, 97, 98, 99, 100, 101, 102, 103] (by decide +kernel) (by decide +kernel)
set_option maxRecDepth 20000 in
theorem gX12_key_X12_isObject : GoodIn wsX12_key (wsV RX12 180 RX12 yX12_isObject wsX12_isObject) := goodIn_app (goodIn_of _ (by decide +kernel)) ggX12_key_X12_isObject
theorem dX12_key_0 : decode cX12_key 0 = .ok (.aload_n 0, 1) := by decide +kernel
theorem dX12_key_1 : decode cX12_key 1 = .ok (.iload_n 1, 1) := by decide +kernel
theorem dX12_key_2 : decode cX12_key 2 = .ok (.invokevirtual 180, 3) := by decide +kernel
theorem dX12_key_5 : decode cX12_key 5 = .ok (.ifCond .ne 7, 3) := by decide +kernel
theorem dX12_key_8 : decode cX12_key 8 = .ok (.iconst (-1), 1) := by decide +kernel
theorem dX12_key_9 : decode cX12_key 9 = .ok (.goto 24, 3) := by decide +kernel
theorem dX12_key_33 : decode cX12_key 33 = .ok (.ireturn, 1) := by decide +kernel
set_option maxRecDepth 20000 in
theorem ggX12_exit_X12_isObject : GoodIn wsX12_exit wsX12_isObject := goodIn_r _ [11, 12, 13, 14, 10, 15, 42, 43, 44, 45, 46, 47, 48, 49, 50, 51, 52, 53, 54, 55, 56, 57, 58, 59, 60, 61, 62, 63, 64, 65, 66, 67, 68, 69, 70, 71, 72, 73, 74, 75, 76, 77, 78, 79, 80, 81, 82, 83, 84, 85, 86, 87, 88, 89, 90, 91, 92, 93, 94, 95, 96, 97, 98, 99, 100, 101, 102, 103, 104, 105, 106, 107, 108, 109, 110] (by decide +kernel) (by decide +kernel)
set_option maxRecDepth 20000 in
theorem gX12_exit_X12_isObject : GoodIn wsX12_exit (wsV RX12 180 RX12 yX12_isObject wsX12_isObject) := goodIn_app (goodIn_of _ (by decide +kernel)) ggX12_exit_X12_isObject
theorem dX12_exit_0 : decode cX12_exit 0 = .ok (.aload_n 0, 1) := by decide +kernel
theorem dX12_exit_1 : decode cX12_exit 1 = .ok (.iload_n 1, 1) := by decide +kernel
theorem dX12_exit_2 : decode cX12_exit 2 = .ok (.invokevirtual 180, 3) := by decide +kernel
theorem dX12_exit_5 : decode cX12_exit 5 = .ok (.ifCond .eq 27, 3) := by decide +kernel
theorem dX12_exit_32 : decode cX12_exit 32 = .ok (.iconst (-1), 1) := by decide +kernel
theorem dX12_exit_33 : decode cX12_exit 33 = .ok (.ireturn, 1) := by decide +kernel
set_option maxRecDepth 20000 in
theorem ggX12_wayRefused_X12_isObject : GoodIn wsX12_wayRefused wsX12_isObject := goodIn_r _ [5, 6, 7, 8, 4, 9, 22, 23, 24, 25, 26, 27, 28, 29, 30, 31, 32, 33, 34, 35, 36, 37, 38, 39, 40, 41, 42, 43, 44, 45, 46, 47, 48, 49, 50, 51, 52, 53, 54, 55, 56, 57, 58, 59, 60, 61, 62, 63, 64, 65, 66, 67, 68, 69, 70, 71, 72, 73, 74, 75, 76, 77, 78, 79, 80, 81, 82, 83, 84, 85, 86, 87, 88, 89, 90] (by decide +kernel) (by decide +kernel)
set_option maxRecDepth 20000 in
theorem gX12_wayRefused_X12_isObject : GoodIn wsX12_wayRefused (wsV RX12 180 RX12 yX12_isObject wsX12_isObject) := goodIn_app (goodIn_of _ (by decide +kernel)) ggX12_wayRefused_X12_isObject
theorem dX12_wayRefused_0 : decode cX12_wayRefused 0 = .ok (.aload_n 0, 1) := by decide +kernel
theorem dX12_wayRefused_1 : decode cX12_wayRefused 1 = .ok (.iload_n 1, 1) := by decide +kernel
theorem dX12_wayRefused_2 : decode cX12_wayRefused 2 = .ok (.invokevirtual 180, 3) := by decide +kernel
theorem dX12_wayRefused_5 : decode cX12_wayRefused 5 = .ok (.ifCond .eq 11, 3) := by decide +kernel
theorem dX12_wayRefused_16 : decode cX12_wayRefused 16 = .ok (.iconst (-1), 1) := by decide +kernel
theorem dX12_wayRefused_17 : decode cX12_wayRefused 17 = .ok (.goto 30, 3) := by decide +kernel
theorem dX12_wayRefused_47 : decode cX12_wayRefused 47 = .ok (.ireturn, 1) := by decide +kernel
set_option maxRecDepth 20000 in
theorem ggX12_way_X12_wayRefused : GoodIn wsX12_way wsX12_wayRefused := goodIn_r _ [6, 7, 8, 9, 5, 10, 11, 12, 13, 14, 15, 16, 17, 18, 19, 20, 21, 22, 23, 24, 25, 26, 59, 60, 61, 62, 63, 64, 65, 66, 67, 68, 69, 70, 71, 72, 73, 74, 75, 76, 77, 78, 79, 80, 81, 82, 83, 84, 85, 86, 87, 88, 89, 90, 91, 92, 93, 94, 95, 96, 97, 98, 99, 100, 101, 102, 103, 104, 105, 106, 107, 108, 109, 110, 111, 112, 113, 114, 115, 116, 117, 118, 119, 120, 121, 122, 123, 124, 125, 126, 127] (by decide +kernel) (by decide +kernel)
set_option maxRecDepth 20000 in
theorem gX12_way_X12_wayRefused : GoodIn wsX12_way (wsV RX12 284 RX12 yX12_wayRefused wsX12_wayRefused) := goodIn_app (goodIn_of _ (by decide +kernel)) ggX12_way_X12_wayRefused
theorem dX12_way_0 : decode cX12_way 0 = .ok (.aload_n 0, 1) := by decide +kernel
theorem dX12_way_1 : decode cX12_way 1 = .ok (.iload_n 1, 1) := by decide +kernel
theorem dX12_way_2 : decode cX12_way 2 = .ok (.iload_n 2, 1) := by decide +kernel
theorem dX12_way_3 : decode cX12_way 3 = .ok (.invokevirtual 284, 3) := by decide +kernel
theorem dX12_way_6 : decode cX12_way 6 = .ok (.istore 4, 2) := by decide +kernel
theorem dX12_way_8 : decode cX12_way 8 = .ok (.iload 4, 2) := by decide +kernel
theorem dX12_way_10 : decode cX12_way 10 = .ok (.ifCond .ge 6, 3) := by decide +kernel
theorem dX12_way_13 : decode cX12_way 13 = .ok (.iload 4, 2) := by decide +kernel
theorem dX12_way_15 : decode cX12_way 15 = .ok (.ireturn, 1) := by decide +kernel
set_option maxRecDepth 20000 in
theorem ggX12_toward_X12_wayRefused : GoodIn wsX12_toward wsX12_wayRefused := goodIn_r _ [8, 9, 10, 11, 7, 12, 13, 14, 15, 16, 17, 18, 19, 20, 21, 22, 23, 24, 25, 26, 27, 28, 59, 60, 61, 62, 63, 64, 65, 66, 67, 68, 69, 70, 71, 72, 73, 74, 75, 76, 77, 78, 79, 80, 81, 82, 83, 84, 85, 86, 87, 88, 89, 90, 91, 92, 93, 94, 95, 96, 97, 98, 99, 100, 101, 102, 103, 104, 105, 106, 107, 108, 109, 110, 111, 112, 113, 114, 115, 116, 117, 118, 119, 120, 121, 122, 123, 124, 125, 126, 127] (by decide +kernel) (by decide +kernel)
set_option maxRecDepth 20000 in
theorem gX12_toward_X12_wayRefused : GoodIn wsX12_toward (wsV RX12 284 RX12 yX12_wayRefused wsX12_wayRefused) := goodIn_app (goodIn_of _ (by decide +kernel)) ggX12_toward_X12_wayRefused
theorem dX12_toward_0 : decode cX12_toward 0 = .ok (.aload_n 0, 1) := by decide +kernel
theorem dX12_toward_1 : decode cX12_toward 1 = .ok (.iload_n 1, 1) := by decide +kernel
theorem dX12_toward_2 : decode cX12_toward 2 = .ok (.iload_n 2, 1) := by decide +kernel
theorem dX12_toward_3 : decode cX12_toward 3 = .ok (.invokevirtual 284, 3) := by decide +kernel
theorem dX12_toward_6 : decode cX12_toward 6 = .ok (.istore 4, 2) := by decide +kernel
theorem dX12_toward_8 : decode cX12_toward 8 = .ok (.iload 4, 2) := by decide +kernel
theorem dX12_toward_10 : decode cX12_toward 10 = .ok (.ifCond .ge 6, 3) := by decide +kernel
theorem dX12_toward_13 : decode cX12_toward 13 = .ok (.iload 4, 2) := by decide +kernel
theorem dX12_toward_15 : decode cX12_toward 15 = .ok (.ireturn, 1) := by decide +kernel
theorem dX12_endTale_0 : decode cX12_endTale 0 = .ok (.aload_n 0, 1) := by decide +kernel
theorem dX12_endTale_1 : decode cX12_endTale 1 = .ok (.bipush (-9), 2) := by decide +kernel
theorem dX12_endTale_3 : decode cX12_endTale 3 = .ok (.putfield 155, 3) := by decide +kernel
theorem dX12_endTale_6 : decode cX12_endTale 6 = .ok (.aload_n 0, 1) := by decide +kernel
theorem dX12_endTale_7 : decode cX12_endTale 7 = .ok (.iconst 0, 1) := by decide +kernel
theorem dX12_endTale_8 : decode cX12_endTale 8 = .ok (.putfield 291, 3) := by decide +kernel
theorem dX12_endTale_11 : decode cX12_endTale 11 = .ok (.return_, 1) := by decide +kernel
set_option maxRecDepth 20000 in
theorem ggX12_bulk_X12_isObject : GoodIn wsX12_bulk wsX12_isObject := goodIn_r _ [9, 10, 11, 12, 8, 13, 62, 63, 64, 65, 66, 67, 68, 69, 70, 71, 72, 73, 74, 75, 76, 77, 78, 79, 80, 81, 82, 83, 84, 85, 86, 87, 88, 89, 90, 91, 92, 93, 94, 95, 96, 97, 98, 99, 100, 101, 102, 103, 104, 105, 106, 107, 108, 109, 110, 111, 112, 113, 114, 115, 116, 117, 118, 119, 120, 121, 122, 123, 124, 125, 126, 127, 128, 129, 130] (by decide +kernel) (by decide +kernel)
set_option maxRecDepth 20000 in
theorem gX12_bulk_X12_isObject : GoodIn wsX12_bulk (wsV RX12 180 RX12 yX12_isObject wsX12_isObject) := goodIn_app (goodIn_of _ (by decide +kernel)) ggX12_bulk_X12_isObject
theorem dX12_bulk_0 : decode cX12_bulk 0 = .ok (.aload_n 0, 1) := by decide +kernel
theorem dX12_bulk_1 : decode cX12_bulk 1 = .ok (.iload_n 1, 1) := by decide +kernel
theorem dX12_bulk_2 : decode cX12_bulk 2 = .ok (.invokevirtual 180, 3) := by decide +kernel
theorem dX12_bulk_5 : decode cX12_bulk 5 = .ok (.ifCond .ne 5, 3) := by decide +kernel
theorem dX12_bulk_8 : decode cX12_bulk 8 = .ok (.iconst (-1), 1) := by decide +kernel
theorem dX12_bulk_9 : decode cX12_bulk 9 = .ok (.ireturn, 1) := by decide +kernel
theorem dX12_asked_0 : decode cX12_asked 0 = .ok (.aload_n 0, 1) := by decide +kernel
theorem dX12_asked_1 : decode cX12_asked 1 = .ok (.getfield 318, 3) := by decide +kernel
theorem dX12_asked_4 : decode cX12_asked 4 = .ok (.lreturn, 1) := by decide +kernel
set_option maxRecDepth 20000 in
theorem ggX12_trace_X12_in : GoodIn wsX12_trace wsX12_in := goodIn_r _ [6] (by decide +kernel) (by decide +kernel)
set_option maxRecDepth 20000 in
theorem gX12_trace_X12_in : GoodIn wsX12_trace (va_wsS RX12 166 yX12_in wsX12_in) := goodIn_app (goodIn_of _ (by decide +kernel)) ggX12_trace_X12_in
theorem dX12_trace_0 : decode cX12_trace 0 = .ok (.iload_n 1, 1) := by decide +kernel
theorem dX12_trace_1 : decode cX12_trace 1 = .ok (.i2l, 1) := by decide +kernel
theorem dX12_trace_2 : decode cX12_trace 2 = .ok (.lconst 0, 1) := by decide +kernel
theorem dX12_trace_3 : decode cX12_trace 3 = .ok (.aload_n 0, 1) := by decide +kernel
theorem dX12_trace_4 : decode cX12_trace 4 = .ok (.getfield 297, 3) := by decide +kernel
theorem dX12_trace_7 : decode cX12_trace 7 = .ok (.iconst 1, 1) := by decide +kernel
theorem dX12_trace_8 : decode cX12_trace 8 = .ok (.isub, 1) := by decide +kernel
theorem dX12_trace_9 : decode cX12_trace 9 = .ok (.i2l, 1) := by decide +kernel
theorem dX12_trace_10 : decode cX12_trace 10 = .ok (.invokestatic 166, 3) := by decide +kernel
theorem dX12_trace_13 : decode cX12_trace 13 = .ok (.ifCond .eq 12, 3) := by decide +kernel
theorem dX12_trace_25 : decode cX12_trace 25 = .ok (.bipush (-9), 2) := by decide +kernel
theorem dX12_trace_27 : decode cX12_trace 27 = .ok (.ireturn, 1) := by decide +kernel
set_option maxRecDepth 20000 in
theorem ggX12_share_X12_isObject : GoodIn wsX12_share wsX12_isObject := goodIn_r _ [9, 2, 10, 11, 8, 12, 63, 64, 65, 66, 67, 68, 69, 70, 71, 72, 73, 74, 75, 76, 77, 78, 79, 80, 81, 82, 83, 84, 85, 86, 87, 88, 89, 90, 91, 92, 93, 94, 95, 96, 97, 98, 99, 100, 101, 102, 103, 104, 105, 106, 107, 108, 109, 110, 111, 112, 113, 114, 115, 116, 117, 118, 119, 120, 121, 122, 123, 124, 125, 126, 127, 128, 129, 130, 131] (by decide +kernel) (by decide +kernel)
set_option maxRecDepth 20000 in
theorem gX12_share_X12_isObject : GoodIn wsX12_share (wsV RX12 180 RX12 yX12_isObject wsX12_isObject) := goodIn_app (goodIn_of _ (by decide +kernel)) ggX12_share_X12_isObject
theorem dX12_share_0 : decode cX12_share 0 = .ok (.aload_n 0, 1) := by decide +kernel
theorem dX12_share_1 : decode cX12_share 1 = .ok (.iload_n 1, 1) := by decide +kernel
theorem dX12_share_2 : decode cX12_share 2 = .ok (.invokevirtual 180, 3) := by decide +kernel
theorem dX12_share_5 : decode cX12_share 5 = .ok (.ifCond .eq 11, 3) := by decide +kernel
theorem dX12_share_16 : decode cX12_share 16 = .ok (.iconst (-1), 1) := by decide +kernel
theorem dX12_share_17 : decode cX12_share 17 = .ok (.ireturn, 1) := by decide +kernel
set_option maxRecDepth 20000 in
theorem ggX12_begin_X12_isObject : GoodIn wsX12_begin wsX12_isObject := goodIn_r _ [14, 2, 15, 16, 13, 17, 51, 52, 53, 54, 55, 56, 57, 58, 59, 60, 61, 62, 63, 64, 65, 66, 67, 68, 69, 70, 71, 72, 73, 74, 75, 76, 77, 78, 79, 80, 81, 82, 83, 84, 85, 86, 87, 88, 89, 90, 91, 92, 93, 94, 95, 96, 97, 98, 99, 100, 101, 102, 103, 104, 105, 106, 107, 108, 109, 110, 111, 112, 113, 114, 115, 116, 117, 118, 119] (by decide +kernel) (by decide +kernel)
set_option maxRecDepth 20000 in
theorem gX12_begin_X12_isObject : GoodIn wsX12_begin (wsV RX12 180 RX12 yX12_isObject wsX12_isObject) := goodIn_app (goodIn_of _ (by decide +kernel)) ggX12_begin_X12_isObject
theorem dX12_begin_0 : decode cX12_begin 0 = .ok (.aload_n 0, 1) := by decide +kernel
theorem dX12_begin_1 : decode cX12_begin 1 = .ok (.iload_n 1, 1) := by decide +kernel
theorem dX12_begin_2 : decode cX12_begin 2 = .ok (.invokevirtual 180, 3) := by decide +kernel
theorem dX12_begin_5 : decode cX12_begin 5 = .ok (.ifCond .ne 5, 3) := by decide +kernel
theorem dX12_begin_8 : decode cX12_begin 8 = .ok (.iconst (-1), 1) := by decide +kernel
theorem dX12_begin_9 : decode cX12_begin 9 = .ok (.ireturn, 1) := by decide +kernel
theorem dX12_hasSecond_0 : decode cX12_hasSecond 0 = .ok (.iload_n 0, 1) := by decide +kernel
theorem dX12_hasSecond_1 : decode cX12_hasSecond 1 = .ok (.iconst 3, 1) := by decide +kernel
theorem dX12_hasSecond_2 : decode cX12_hasSecond 2 = .ok (.if_icmp .eq 20, 3) := by decide +kernel
theorem dX12_hasSecond_5 : decode cX12_hasSecond 5 = .ok (.iload_n 0, 1) := by decide +kernel
theorem dX12_hasSecond_6 : decode cX12_hasSecond 6 = .ok (.iconst 4, 1) := by decide +kernel
theorem dX12_hasSecond_7 : decode cX12_hasSecond 7 = .ok (.if_icmp .eq 15, 3) := by decide +kernel
theorem dX12_hasSecond_10 : decode cX12_hasSecond 10 = .ok (.iload_n 0, 1) := by decide +kernel
theorem dX12_hasSecond_11 : decode cX12_hasSecond 11 = .ok (.bipush 7, 2) := by decide +kernel
theorem dX12_hasSecond_13 : decode cX12_hasSecond 13 = .ok (.if_icmp .eq 9, 3) := by decide +kernel
theorem dX12_hasSecond_16 : decode cX12_hasSecond 16 = .ok (.iload_n 0, 1) := by decide +kernel
theorem dX12_hasSecond_17 : decode cX12_hasSecond 17 = .ok (.bipush 8, 2) := by decide +kernel
theorem dX12_hasSecond_19 : decode cX12_hasSecond 19 = .ok (.if_icmp .ne 7, 3) := by decide +kernel
theorem dX12_hasSecond_22 : decode cX12_hasSecond 22 = .ok (.iconst 1, 1) := by decide +kernel
theorem dX12_hasSecond_23 : decode cX12_hasSecond 23 = .ok (.goto 4, 3) := by decide +kernel
theorem dX12_hasSecond_26 : decode cX12_hasSecond 26 = .ok (.iconst 0, 1) := by decide +kernel
theorem dX12_hasSecond_27 : decode cX12_hasSecond 27 = .ok (.ireturn, 1) := by decide +kernel
set_option maxRecDepth 20000 in
theorem ggX12_act_X12_in : GoodIn wsX12_act wsX12_in := goodIn_r _ [18] (by decide +kernel) (by decide +kernel)
set_option maxRecDepth 20000 in
theorem gX12_act_X12_in : GoodIn wsX12_act (va_wsS RX12 166 yX12_in wsX12_in) := goodIn_app (goodIn_of _ (by decide +kernel)) ggX12_act_X12_in
set_option maxRecDepth 20000 in
theorem ggX12_act_X12_isObject : GoodIn wsX12_act wsX12_isObject := goodIn_r _ [22, 23, 15, 16, 17, 18, 193, 194, 195, 196, 197, 198, 199, 200, 201, 202, 203, 204, 205, 206, 207, 208, 209, 210, 211, 212, 213, 214, 215, 216, 217, 218, 219, 220, 221, 222, 223, 224, 225, 226, 227, 228, 229, 230, 231, 232, 233, 234, 235, 236, 237, 238, 239, 240, 241, 242, 243, 244, 245, 246, 247, 248, 249, 250, 251, 252, 253, 254, 255, 256, 257, 258, 259, 260, 261] (by decide +kernel) (by decide +kernel)
set_option maxRecDepth 20000 in
theorem gX12_act_X12_isObject : GoodIn wsX12_act (wsV RX12 180 RX12 yX12_isObject wsX12_isObject) := goodIn_app (goodIn_of _ (by decide +kernel)) ggX12_act_X12_isObject
set_option maxRecDepth 20000 in
theorem ggX12_act_X12_hasSecond : GoodIn wsX12_act wsX12_hasSecond := goodIn_r _ [26] (by decide +kernel) (by decide +kernel)
set_option maxRecDepth 20000 in
theorem gX12_act_X12_hasSecond : GoodIn wsX12_act (va_wsS RX12 389 yX12_hasSecond wsX12_hasSecond) := goodIn_app (goodIn_of _ (by decide +kernel)) ggX12_act_X12_hasSecond
theorem dX12_act_0 : decode cX12_act 0 = .ok (.iload_n 1, 1) := by decide +kernel
theorem dX12_act_1 : decode cX12_act 1 = .ok (.i2l, 1) := by decide +kernel
theorem dX12_act_2 : decode cX12_act 2 = .ok (.lconst 0, 1) := by decide +kernel
theorem dX12_act_3 : decode cX12_act 3 = .ok (.ldc2_w 385, 3) := by decide +kernel
theorem dX12_act_6 : decode cX12_act 6 = .ok (.invokestatic 166, 3) := by decide +kernel
theorem dX12_act_9 : decode cX12_act 9 = .ok (.ifCond .eq 54, 3) := by decide +kernel
theorem dX12_act_12 : decode cX12_act 12 = .ok (.iload_n 1, 1) := by decide +kernel
theorem dX12_act_13 : decode cX12_act 13 = .ok (.ifCond .ne 15, 3) := by decide +kernel
theorem dX12_act_16 : decode cX12_act 16 = .ok (.iload_n 2, 1) := by decide +kernel
theorem dX12_act_17 : decode cX12_act 17 = .ok (.i2l, 1) := by decide +kernel
theorem dX12_act_18 : decode cX12_act 18 = .ok (.lconst 0, 1) := by decide +kernel
theorem dX12_act_19 : decode cX12_act 19 = .ok (.ldc2_w 197, 3) := by decide +kernel
theorem dX12_act_22 : decode cX12_act 22 = .ok (.invokestatic 166, 3) := by decide +kernel
theorem dX12_act_25 : decode cX12_act 25 = .ok (.ifCond .eq 38, 3) := by decide +kernel
theorem dX12_act_28 : decode cX12_act 28 = .ok (.iload_n 1, 1) := by decide +kernel
theorem dX12_act_29 : decode cX12_act 29 = .ok (.i2l, 1) := by decide +kernel
theorem dX12_act_30 : decode cX12_act 30 = .ok (.lconst 1, 1) := by decide +kernel
theorem dX12_act_31 : decode cX12_act 31 = .ok (.ldc2_w 387, 3) := by decide +kernel
theorem dX12_act_34 : decode cX12_act 34 = .ok (.invokestatic 166, 3) := by decide +kernel
theorem dX12_act_37 : decode cX12_act 37 = .ok (.ifCond .eq 11, 3) := by decide +kernel
theorem dX12_act_40 : decode cX12_act 40 = .ok (.aload_n 0, 1) := by decide +kernel
theorem dX12_act_41 : decode cX12_act 41 = .ok (.iload_n 2, 1) := by decide +kernel
theorem dX12_act_42 : decode cX12_act 42 = .ok (.invokevirtual 180, 3) := by decide +kernel
theorem dX12_act_45 : decode cX12_act 45 = .ok (.ifCond .eq 18, 3) := by decide +kernel
theorem dX12_act_48 : decode cX12_act 48 = .ok (.iload_n 1, 1) := by decide +kernel
theorem dX12_act_49 : decode cX12_act 49 = .ok (.invokestatic 389, 3) := by decide +kernel
theorem dX12_act_52 : decode cX12_act 52 = .ok (.ifCond .eq 13, 3) := by decide +kernel
theorem dX12_act_55 : decode cX12_act 55 = .ok (.aload_n 0, 1) := by decide +kernel
theorem dX12_act_56 : decode cX12_act 56 = .ok (.iload_n 3, 1) := by decide +kernel
theorem dX12_act_57 : decode cX12_act 57 = .ok (.invokevirtual 180, 3) := by decide +kernel
theorem dX12_act_60 : decode cX12_act 60 = .ok (.ifCond .ne 5, 3) := by decide +kernel
theorem dX12_act_63 : decode cX12_act 63 = .ok (.iconst (-1), 1) := by decide +kernel
theorem dX12_act_64 : decode cX12_act 64 = .ok (.ireturn, 1) := by decide +kernel
theorem dX12_act_65 : decode cX12_act 65 = .ok (.aload_n 0, 1) := by decide +kernel
theorem dX12_act_66 : decode cX12_act 66 = .ok (.getfield 155, 3) := by decide +kernel
theorem dX12_act_69 : decode cX12_act 69 = .ok (.bipush (-9), 2) := by decide +kernel
theorem dX12_act_71 : decode cX12_act 71 = .ok (.if_icmp .eq 15, 3) := by decide +kernel
theorem dX12_act_86 : decode cX12_act 86 = .ok (.aload_n 0, 1) := by decide +kernel
theorem dX12_act_87 : decode cX12_act 87 = .ok (.getfield 155, 3) := by decide +kernel
theorem dX12_act_90 : decode cX12_act 90 = .ok (.bipush (-9), 2) := by decide +kernel
theorem dX12_act_92 : decode cX12_act 92 = .ok (.if_icmp .ne 6, 3) := by decide +kernel
theorem dX12_act_95 : decode cX12_act 95 = .ok (.bipush (-5), 2) := by decide +kernel
theorem dX12_act_97 : decode cX12_act 97 = .ok (.ireturn, 1) := by decide +kernel
theorem dX12_back_0 : decode cX12_back 0 = .ok (.aload_n 0, 1) := by decide +kernel
theorem dX12_back_1 : decode cX12_back 1 = .ok (.getfield 155, 3) := by decide +kernel
theorem dX12_back_4 : decode cX12_back 4 = .ok (.bipush (-9), 2) := by decide +kernel
theorem dX12_back_6 : decode cX12_back 6 = .ok (.if_icmp .eq 10, 3) := by decide +kernel
theorem dX12_back_16 : decode cX12_back 16 = .ok (.bipush (-5), 2) := by decide +kernel
theorem dX12_back_18 : decode cX12_back 18 = .ok (.ireturn, 1) := by decide +kernel
set_option maxRecDepth 20000 in
theorem ggX12_now_X12_isObject : GoodIn wsX12_now wsX12_isObject := goodIn_r _ [7, 8, 9, 10, 6, 11, 83, 84, 85, 86, 87, 88, 89, 90, 91, 92, 93, 94, 95, 96, 97, 98, 99, 100, 101, 102, 103, 104, 105, 106, 107, 108, 109, 110, 111, 112, 113, 114, 115, 116, 117, 118, 119, 120, 121, 122, 123, 124, 125, 126, 127, 128, 129, 130, 131, 132, 133, 134, 135, 136, 137, 138, 139, 140, 141, 142, 143, 144, 145, 146, 147, 148, 149, 150, 151] (by decide +kernel) (by decide +kernel)
set_option maxRecDepth 20000 in
theorem gX12_now_X12_isObject : GoodIn wsX12_now (wsV RX12 180 RX12 yX12_isObject wsX12_isObject) := goodIn_app (goodIn_of _ (by decide +kernel)) ggX12_now_X12_isObject
theorem dX12_now_0 : decode cX12_now 0 = .ok (.aload_n 0, 1) := by decide +kernel
theorem dX12_now_1 : decode cX12_now 1 = .ok (.iload_n 1, 1) := by decide +kernel
theorem dX12_now_2 : decode cX12_now 2 = .ok (.invokevirtual 180, 3) := by decide +kernel
theorem dX12_now_5 : decode cX12_now 5 = .ok (.ifCond .eq 15, 3) := by decide +kernel
theorem dX12_now_20 : decode cX12_now 20 = .ok (.iconst (-1), 1) := by decide +kernel
theorem dX12_now_21 : decode cX12_now 21 = .ok (.ireturn, 1) := by decide +kernel
set_option maxRecDepth 20000 in
theorem ggX12_turn_X12_in : GoodIn wsX12_turn wsX12_in := goodIn_r _ [8] (by decide +kernel) (by decide +kernel)
set_option maxRecDepth 20000 in
theorem gX12_turn_X12_in : GoodIn wsX12_turn (va_wsS RX12 166 yX12_in wsX12_in) := goodIn_app (goodIn_of _ (by decide +kernel)) ggX12_turn_X12_in
theorem dX12_turn_0 : decode cX12_turn 0 = .ok (.iload_n 1, 1) := by decide +kernel
theorem dX12_turn_1 : decode cX12_turn 1 = .ok (.ifCond .lt 15, 3) := by decide +kernel
theorem dX12_turn_4 : decode cX12_turn 4 = .ok (.iload_n 2, 1) := by decide +kernel
theorem dX12_turn_5 : decode cX12_turn 5 = .ok (.i2l, 1) := by decide +kernel
theorem dX12_turn_6 : decode cX12_turn 6 = .ok (.lconst 0, 1) := by decide +kernel
theorem dX12_turn_7 : decode cX12_turn 7 = .ok (.ldc2_w 254, 3) := by decide +kernel
theorem dX12_turn_10 : decode cX12_turn 10 = .ok (.invokestatic 166, 3) := by decide +kernel
theorem dX12_turn_13 : decode cX12_turn 13 = .ok (.ifCond .ne 5, 3) := by decide +kernel
theorem dX12_turn_16 : decode cX12_turn 16 = .ok (.iconst (-1), 1) := by decide +kernel
theorem dX12_turn_17 : decode cX12_turn 17 = .ok (.ireturn, 1) := by decide +kernel
theorem dX12_turn_18 : decode cX12_turn 18 = .ok (.aload_n 0, 1) := by decide +kernel
theorem dX12_turn_19 : decode cX12_turn 19 = .ok (.getfield 155, 3) := by decide +kernel
theorem dX12_turn_22 : decode cX12_turn 22 = .ok (.bipush (-9), 2) := by decide +kernel
theorem dX12_turn_24 : decode cX12_turn 24 = .ok (.if_icmp .ne 6, 3) := by decide +kernel
theorem dX12_turn_27 : decode cX12_turn 27 = .ok (.bipush (-5), 2) := by decide +kernel
theorem dX12_turn_29 : decode cX12_turn 29 = .ok (.ireturn, 1) := by decide +kernel
theorem dX12_light_0 : decode cX12_light 0 = .ok (.aload_n 0, 1) := by decide +kernel
theorem dX12_light_1 : decode cX12_light 1 = .ok (.getfield 155, 3) := by decide +kernel
theorem dX12_light_4 : decode cX12_light 4 = .ok (.bipush (-9), 2) := by decide +kernel
theorem dX12_light_6 : decode cX12_light 6 = .ok (.if_icmp .ne 6, 3) := by decide +kernel
theorem dX12_light_9 : decode cX12_light 9 = .ok (.bipush (-5), 2) := by decide +kernel
theorem dX12_light_11 : decode cX12_light 11 = .ok (.ireturn, 1) := by decide +kernel
set_option maxRecDepth 20000 in
theorem ggX12_seek_X12_isObject : GoodIn wsX12_seek wsX12_isObject := goodIn_r _ [14, 15, 16, 17, 13, 18, 219, 220, 221, 222, 223, 224, 225, 226, 227, 228, 229, 230, 231, 232, 233, 234, 235, 236, 237, 238, 239, 240, 241, 242, 243, 244, 245, 246, 247, 248, 249, 250, 251, 252, 253, 254, 255, 256, 257, 258, 259, 260, 261, 262, 263, 264, 265, 266, 267, 268, 269, 270, 271, 272, 273, 274, 275, 276, 277, 278, 279, 280, 281, 282, 283, 284, 285, 286, 287] (by decide +kernel) (by decide +kernel)
set_option maxRecDepth 20000 in
theorem gX12_seek_X12_isObject : GoodIn wsX12_seek (wsV RX12 180 RX12 yX12_isObject wsX12_isObject) := goodIn_app (goodIn_of _ (by decide +kernel)) ggX12_seek_X12_isObject
theorem dX12_seek_0 : decode cX12_seek 0 = .ok (.aload_n 0, 1) := by decide +kernel
theorem dX12_seek_1 : decode cX12_seek 1 = .ok (.iload_n 1, 1) := by decide +kernel
theorem dX12_seek_2 : decode cX12_seek 2 = .ok (.invokevirtual 180, 3) := by decide +kernel
theorem dX12_seek_5 : decode cX12_seek 5 = .ok (.ifCond .eq 23, 3) := by decide +kernel
theorem dX12_seek_28 : decode cX12_seek 28 = .ok (.iconst (-1), 1) := by decide +kernel
theorem dX12_seek_29 : decode cX12_seek 29 = .ok (.ireturn, 1) := by decide +kernel
set_option maxRecDepth 20000 in
theorem ggX12_sought_X12_in : GoodIn wsX12_sought wsX12_in := goodIn_r _ [7] (by decide +kernel) (by decide +kernel)
set_option maxRecDepth 20000 in
theorem gX12_sought_X12_in : GoodIn wsX12_sought (va_wsS RX12 166 yX12_in wsX12_in) := goodIn_app (goodIn_of _ (by decide +kernel)) ggX12_sought_X12_in
theorem dX12_sought_0 : decode cX12_sought 0 = .ok (.iload_n 2, 1) := by decide +kernel
theorem dX12_sought_1 : decode cX12_sought 1 = .ok (.i2l, 1) := by decide +kernel
theorem dX12_sought_2 : decode cX12_sought 2 = .ok (.lconst 0, 1) := by decide +kernel
theorem dX12_sought_3 : decode cX12_sought 3 = .ok (.ldc2_w 254, 3) := by decide +kernel
theorem dX12_sought_6 : decode cX12_sought 6 = .ok (.invokestatic 166, 3) := by decide +kernel
theorem dX12_sought_9 : decode cX12_sought 9 = .ok (.ifCond .ne 5, 3) := by decide +kernel
theorem dX12_sought_12 : decode cX12_sought 12 = .ok (.iconst (-1), 1) := by decide +kernel
theorem dX12_sought_13 : decode cX12_sought 13 = .ok (.ireturn, 1) := by decide +kernel
theorem dX12_sought_14 : decode cX12_sought 14 = .ok (.iload_n 1, 1) := by decide +kernel
theorem dX12_sought_15 : decode cX12_sought 15 = .ok (.i2l, 1) := by decide +kernel
theorem dX12_sought_16 : decode cX12_sought 16 = .ok (.lconst 0, 1) := by decide +kernel
theorem dX12_sought_17 : decode cX12_sought 17 = .ok (.aload_n 0, 1) := by decide +kernel
theorem dX12_sought_18 : decode cX12_sought 18 = .ok (.getfield 158, 3) := by decide +kernel
theorem dX12_sought_21 : decode cX12_sought 21 = .ok (.iconst 1, 1) := by decide +kernel
theorem dX12_sought_22 : decode cX12_sought 22 = .ok (.isub, 1) := by decide +kernel
theorem dX12_sought_23 : decode cX12_sought 23 = .ok (.i2l, 1) := by decide +kernel
theorem dX12_sought_24 : decode cX12_sought 24 = .ok (.invokestatic 166, 3) := by decide +kernel
theorem dX12_sought_27 : decode cX12_sought 27 = .ok (.ifCond .eq 16, 3) := by decide +kernel
theorem dX12_sought_43 : decode cX12_sought 43 = .ok (.bipush (-9), 2) := by decide +kernel
theorem dX12_sought_45 : decode cX12_sought 45 = .ok (.ireturn, 1) := by decide +kernel
set_option maxRecDepth 20000 in
theorem ggX12_line_X12_isObject : GoodIn wsX12_line wsX12_isObject := goodIn_r _ [10, 11, 12, 13, 9, 14, 21, 22, 23, 24, 25, 26, 27, 28, 29, 30, 31, 32, 33, 34, 35, 36, 37, 38, 39, 40, 41, 42, 43, 44, 45, 46, 47, 48, 49, 50, 51, 52, 53, 54, 55, 56, 57, 58, 59, 60, 61, 62, 63, 64, 65, 66, 67, 68, 69, 70, 71, 72, 73, 74, 75, 76, 77, 78, 79, 80, 81, 82, 83, 84, 85, 86, 87, 88, 89] (by decide +kernel) (by decide +kernel)
set_option maxRecDepth 20000 in
theorem gX12_line_X12_isObject : GoodIn wsX12_line (wsV RX12 180 RX12 yX12_isObject wsX12_isObject) := goodIn_app (goodIn_of _ (by decide +kernel)) ggX12_line_X12_isObject
theorem dX12_line_0 : decode cX12_line 0 = .ok (.aload_n 0, 1) := by decide +kernel
theorem dX12_line_1 : decode cX12_line 1 = .ok (.iload_n 1, 1) := by decide +kernel
theorem dX12_line_2 : decode cX12_line 2 = .ok (.invokevirtual 180, 3) := by decide +kernel
theorem dX12_line_5 : decode cX12_line 5 = .ok (.ifCond .eq 21, 3) := by decide +kernel
theorem dX12_line_26 : decode cX12_line 26 = .ok (.iconst (-1), 1) := by decide +kernel
theorem dX12_line_27 : decode cX12_line 27 = .ok (.ireturn, 1) := by decide +kernel
set_option maxRecDepth 20000 in
theorem ggX12_put_X12_isObject : GoodIn wsX12_put wsX12_isObject := goodIn_r _ [7, 8, 9, 10, 6, 11, 31, 32, 33, 34, 35, 36, 37, 38, 39, 40, 41, 42, 43, 44, 45, 46, 47, 48, 49, 50, 51, 52, 53, 54, 55, 56, 57, 58, 59, 60, 61, 62, 63, 64, 65, 66, 67, 68, 69, 70, 71, 72, 73, 74, 75, 76, 77, 78, 79, 80, 81, 82, 83, 84, 85, 86, 87, 88, 89, 90, 91, 92, 93, 94, 95, 96, 97, 98, 99] (by decide +kernel) (by decide +kernel)
set_option maxRecDepth 20000 in
theorem gX12_put_X12_isObject : GoodIn wsX12_put (wsV RX12 180 RX12 yX12_isObject wsX12_isObject) := goodIn_app (goodIn_of _ (by decide +kernel)) ggX12_put_X12_isObject
theorem dX12_put_0 : decode cX12_put 0 = .ok (.aload_n 0, 1) := by decide +kernel
theorem dX12_put_1 : decode cX12_put 1 = .ok (.iload_n 1, 1) := by decide +kernel
theorem dX12_put_2 : decode cX12_put 2 = .ok (.invokevirtual 180, 3) := by decide +kernel
theorem dX12_put_5 : decode cX12_put 5 = .ok (.ifCond .eq 15, 3) := by decide +kernel
theorem dX12_put_20 : decode cX12_put 20 = .ok (.iconst (-1), 1) := by decide +kernel
theorem dX12_put_21 : decode cX12_put 21 = .ok (.ireturn, 1) := by decide +kernel
set_option maxRecDepth 20000 in
theorem ggX12_item_X12_isObject : GoodIn wsX12_item wsX12_isObject := goodIn_r _ [8, 9, 10, 11, 7, 12, 26, 27, 28, 29, 30, 31, 32, 33, 34, 35, 36, 37, 38, 39, 40, 41, 42, 43, 44, 45, 46, 47, 48, 49, 50, 51, 52, 53, 54, 55, 56, 57, 58, 59, 60, 61, 62, 63, 64, 65, 66, 67, 68, 69, 70, 71, 72, 73, 74, 75, 76, 77, 78, 79, 80, 81, 82, 83, 84, 85, 86, 87, 88, 89, 90, 91, 92, 93, 94] (by decide +kernel) (by decide +kernel)
set_option maxRecDepth 20000 in
theorem gX12_item_X12_isObject : GoodIn wsX12_item (wsV RX12 180 RX12 yX12_isObject wsX12_isObject) := goodIn_app (goodIn_of _ (by decide +kernel)) ggX12_item_X12_isObject
theorem dX12_item_0 : decode cX12_item 0 = .ok (.aload_n 0, 1) := by decide +kernel
theorem dX12_item_1 : decode cX12_item 1 = .ok (.iload_n 1, 1) := by decide +kernel
theorem dX12_item_2 : decode cX12_item 2 = .ok (.invokevirtual 180, 3) := by decide +kernel
theorem dX12_item_5 : decode cX12_item 5 = .ok (.ifCond .eq 15, 3) := by decide +kernel
theorem dX12_item_20 : decode cX12_item 20 = .ok (.iconst (-1), 1) := by decide +kernel
theorem dX12_item_21 : decode cX12_item 21 = .ok (.ireturn, 1) := by decide +kernel
set_option maxRecDepth 20000 in
theorem ggX12_copy_X12_isObject : GoodIn wsX12_copy wsX12_isObject := goodIn_r _ [11, 12, 13, 14, 10, 15, 22, 23, 24, 25, 26, 27, 28, 29, 30, 31, 32, 33, 34, 35, 36, 37, 38, 39, 40, 41, 42, 43, 44, 45, 46, 47, 48, 49, 50, 51, 52, 53, 54, 55, 56, 57, 58, 59, 60, 61, 62, 63, 64, 65, 66, 67, 68, 69, 70, 71, 72, 73, 74, 75, 76, 77, 78, 79, 80, 81, 82, 83, 84, 85, 86, 87, 88, 89, 90] (by decide +kernel) (by decide +kernel)
set_option maxRecDepth 20000 in
theorem gX12_copy_X12_isObject : GoodIn wsX12_copy (wsV RX12 180 RX12 yX12_isObject wsX12_isObject) := goodIn_app (goodIn_of _ (by decide +kernel)) ggX12_copy_X12_isObject
theorem dX12_copy_0 : decode cX12_copy 0 = .ok (.aload_n 0, 1) := by decide +kernel
theorem dX12_copy_1 : decode cX12_copy 1 = .ok (.iload_n 1, 1) := by decide +kernel
theorem dX12_copy_2 : decode cX12_copy 2 = .ok (.invokevirtual 180, 3) := by decide +kernel
theorem dX12_copy_5 : decode cX12_copy 5 = .ok (.ifCond .eq 24, 3) := by decide +kernel
theorem dX12_copy_29 : decode cX12_copy 29 = .ok (.iconst (-1), 1) := by decide +kernel
theorem dX12_copy_30 : decode cX12_copy 30 = .ok (.ireturn, 1) := by decide +kernel
set_option maxRecDepth 20000 in
theorem ggX12_cast_X12_in : GoodIn wsX12_cast wsX12_in := goodIn_r _ [9] (by decide +kernel) (by decide +kernel)
set_option maxRecDepth 20000 in
theorem gX12_cast_X12_in : GoodIn wsX12_cast (va_wsS RX12 166 yX12_in wsX12_in) := goodIn_app (goodIn_of _ (by decide +kernel)) ggX12_cast_X12_in
set_option maxRecDepth 20000 in
theorem ggX12_cast_X12_meets : GoodIn wsX12_cast wsX12_meets := goodIn_r _ [13, 14, 15, 16, 17, 18, 19, 20, 21, 22, 23, 24, 25, 26, 27, 28, 29, 30, 31, 32, 33, 34, 35, 36, 37, 38, 39, 40, 41, 42, 43, 44, 45, 46, 47, 48, 49, 50, 51, 52, 53, 54, 55, 56, 57, 58, 59, 60, 61, 62, 63, 64, 65, 66, 67, 68, 69, 70, 71, 72, 73, 74, 75, 76, 77, 78, 79, 80, 81, 82, 83, 84] (by decide +kernel) (by decide +kernel)
set_option maxRecDepth 20000 in
theorem gX12_cast_X12_meets : GoodIn wsX12_cast (wsV RX12 233 RX12 yX12_meets wsX12_meets) := goodIn_app (goodIn_of _ (by decide +kernel)) ggX12_cast_X12_meets
theorem dX12_cast_0 : decode cX12_cast 0 = .ok (.iload_n 1, 1) := by decide +kernel
theorem dX12_cast_1 : decode cX12_cast 1 = .ok (.i2l, 1) := by decide +kernel
theorem dX12_cast_2 : decode cX12_cast 2 = .ok (.lconst 1, 1) := by decide +kernel
theorem dX12_cast_3 : decode cX12_cast 3 = .ok (.ldc2_w 170, 3) := by decide +kernel
theorem dX12_cast_6 : decode cX12_cast 6 = .ok (.invokestatic 166, 3) := by decide +kernel
theorem dX12_cast_9 : decode cX12_cast 9 = .ok (.ifCond .eq 9, 3) := by decide +kernel
theorem dX12_cast_12 : decode cX12_cast 12 = .ok (.iload_n 2, 1) := by decide +kernel
theorem dX12_cast_13 : decode cX12_cast 13 = .ok (.bipush 12, 2) := by decide +kernel
theorem dX12_cast_15 : decode cX12_cast 15 = .ok (.if_icmp .le 5, 3) := by decide +kernel
theorem dX12_cast_18 : decode cX12_cast 18 = .ok (.iconst (-1), 1) := by decide +kernel
theorem dX12_cast_19 : decode cX12_cast 19 = .ok (.ireturn, 1) := by decide +kernel
