theorem dX12_make_36 : decode cX12_make 36 = .ok (.if_icmp .ne 6, 3) := by decide +kernel
theorem dX12_make_42 : decode cX12_make 42 = .ok (.aload_n 0, 1) := by decide +kernel
theorem dX12_make_43 : decode cX12_make 43 = .ok (.getfield 19, 3) := by decide +kernel
theorem dX12_make_46 : decode cX12_make 46 = .ok (.aload_n 0, 1) := by decide +kernel
theorem dX12_make_47 : decode cX12_make 47 = .ok (.getfield 177, 3) := by decide +kernel
theorem dX12_make_50 : decode cX12_make 50 = .ok (.iload_n 1, 1) := by decide +kernel
theorem dX12_make_51 : decode cX12_make 51 = .ok (.iastore, 1) := by decide +kernel
theorem dX12_make_52 : decode cX12_make 52 = .ok (.aload_n 0, 1) := by decide +kernel
theorem dX12_make_53 : decode cX12_make 53 = .ok (.getfield 22, 3) := by decide +kernel
theorem dX12_make_56 : decode cX12_make 56 = .ok (.aload_n 0, 1) := by decide +kernel
theorem dX12_make_57 : decode cX12_make 57 = .ok (.getfield 177, 3) := by decide +kernel
theorem dX12_make_60 : decode cX12_make 60 = .ok (.iload_n 2, 1) := by decide +kernel
theorem dX12_make_61 : decode cX12_make 61 = .ok (.iastore, 1) := by decide +kernel
theorem dX12_make_62 : decode cX12_make 62 = .ok (.aload_n 0, 1) := by decide +kernel
theorem dX12_make_63 : decode cX12_make 63 = .ok (.dup, 1) := by decide +kernel
theorem dX12_make_64 : decode cX12_make 64 = .ok (.getfield 177, 3) := by decide +kernel
theorem dX12_make_67 : decode cX12_make 67 = .ok (.iconst 1, 1) := by decide +kernel
theorem dX12_make_68 : decode cX12_make 68 = .ok (.iadd, 1) := by decide +kernel
theorem dX12_make_69 : decode cX12_make 69 = .ok (.putfield 177, 3) := by decide +kernel
theorem dX12_make_72 : decode cX12_make 72 = .ok (.aload_n 0, 1) := by decide +kernel
theorem dX12_make_73 : decode cX12_make 73 = .ok (.invokevirtual 172, 3) := by decide +kernel
theorem dX12_make_76 : decode cX12_make 76 = .ok (.aload_n 0, 1) := by decide +kernel
theorem dX12_make_77 : decode cX12_make 77 = .ok (.getfield 177, 3) := by decide +kernel
theorem dX12_make_80 : decode cX12_make 80 = .ok (.iconst 1, 1) := by decide +kernel
theorem dX12_make_81 : decode cX12_make 81 = .ok (.isub, 1) := by decide +kernel
theorem dX12_make_82 : decode cX12_make 82 = .ok (.ireturn, 1) := by decide +kernel
theorem dX12_isObject_0 : decode cX12_isObject 0 = .ok (.iload_n 1, 1) := by decide +kernel
theorem dX12_isObject_1 : decode cX12_isObject 1 = .ok (.i2l, 1) := by decide +kernel
theorem dX12_isObject_2 : decode cX12_isObject 2 = .ok (.lconst 0, 1) := by decide +kernel
theorem dX12_isObject_3 : decode cX12_isObject 3 = .ok (.aload_n 0, 1) := by decide +kernel
theorem dX12_isObject_4 : decode cX12_isObject 4 = .ok (.getfield 177, 3) := by decide +kernel
theorem dX12_isObject_7 : decode cX12_isObject 7 = .ok (.iconst 1, 1) := by decide +kernel
theorem dX12_isObject_8 : decode cX12_isObject 8 = .ok (.isub, 1) := by decide +kernel
theorem dX12_isObject_9 : decode cX12_isObject 9 = .ok (.i2l, 1) := by decide +kernel
theorem dX12_isObject_10 : decode cX12_isObject 10 = .ok (.invokestatic 166, 3) := by decide +kernel
theorem dX12_isObject_13 : decode cX12_isObject 13 = .ok (.ireturn, 1) := by decide +kernel
theorem dX12_is_0 : decode cX12_is 0 = .ok (.aload_n 0, 1) := by decide +kernel
theorem dX12_is_1 : decode cX12_is 1 = .ok (.iload_n 1, 1) := by decide +kernel
theorem dX12_is_2 : decode cX12_is 2 = .ok (.invokevirtual 180, 3) := by decide +kernel
theorem dX12_is_5 : decode cX12_is 5 = .ok (.ifCond .eq 19, 3) := by decide +kernel
theorem dX12_is_24 : decode cX12_is 24 = .ok (.iconst (-1), 1) := by decide +kernel
theorem dX12_is_25 : decode cX12_is 25 = .ok (.goto 17, 3) := by decide +kernel
theorem dX12_is_42 : decode cX12_is 42 = .ok (.ireturn, 1) := by decide +kernel
theorem dX12_areNumbers_0 : decode cX12_areNumbers 0 = .ok (.iload_n 1, 1) := by decide +kernel
theorem dX12_areNumbers_1 : decode cX12_areNumbers 1 = .ok (.bipush 6, 2) := by decide +kernel
theorem dX12_areNumbers_3 : decode cX12_areNumbers 3 = .ok (.if_icmp .ne 40, 3) := by decide +kernel
theorem dX12_areNumbers_6 : decode cX12_areNumbers 6 = .ok (.aload_n 0, 1) := by decide +kernel
theorem dX12_areNumbers_7 : decode cX12_areNumbers 7 = .ok (.iload_n 2, 1) := by decide +kernel
theorem dX12_areNumbers_8 : decode cX12_areNumbers 8 = .ok (.invokevirtual 180, 3) := by decide +kernel
theorem dX12_areNumbers_11 : decode cX12_areNumbers 11 = .ok (.ifCond .eq 30, 3) := by decide +kernel
theorem dX12_areNumbers_41 : decode cX12_areNumbers 41 = .ok (.iconst 0, 1) := by decide +kernel
theorem dX12_areNumbers_42 : decode cX12_areNumbers 42 = .ok (.ireturn, 1) := by decide +kernel
theorem dX12_areNumbers_43 : decode cX12_areNumbers 43 = .ok (.aload_n 0, 1) := by decide +kernel
theorem dX12_areNumbers_44 : decode cX12_areNumbers 44 = .ok (.iload_n 2, 1) := by decide +kernel
theorem dX12_areNumbers_45 : decode cX12_areNumbers 45 = .ok (.invokevirtual 180, 3) := by decide +kernel
theorem dX12_areNumbers_48 : decode cX12_areNumbers 48 = .ok (.ifCond .eq 33, 3) := by decide +kernel
theorem dX12_areNumbers_81 : decode cX12_areNumbers 81 = .ok (.iconst 0, 1) := by decide +kernel
theorem dX12_areNumbers_82 : decode cX12_areNumbers 82 = .ok (.ireturn, 1) := by decide +kernel
theorem dX12_say_0 : decode cX12_say 0 = .ok (.aload_n 0, 1) := by decide +kernel
theorem dX12_say_1 : decode cX12_say 1 = .ok (.iconst 0, 1) := by decide +kernel
theorem dX12_say_2 : decode cX12_say 2 = .ok (.putfield 205, 3) := by decide +kernel
theorem dX12_say_5 : decode cX12_say 5 = .ok (.iload_n 1, 1) := by decide +kernel
theorem dX12_say_6 : decode cX12_say 6 = .ok (.i2l, 1) := by decide +kernel
theorem dX12_say_7 : decode cX12_say 7 = .ok (.lconst 0, 1) := by decide +kernel
theorem dX12_say_8 : decode cX12_say 8 = .ok (.ldc2_w 220, 3) := by decide +kernel
theorem dX12_say_11 : decode cX12_say 11 = .ok (.invokestatic 166, 3) := by decide +kernel
theorem dX12_say_14 : decode cX12_say 14 = .ok (.ifCond .eq 15, 3) := by decide +kernel
theorem dX12_say_17 : decode cX12_say 17 = .ok (.aload_n 0, 1) := by decide +kernel
theorem dX12_say_18 : decode cX12_say 18 = .ok (.iload_n 1, 1) := by decide +kernel
theorem dX12_say_19 : decode cX12_say 19 = .ok (.iload_n 2, 1) := by decide +kernel
theorem dX12_say_20 : decode cX12_say 20 = .ok (.iload_n 3, 1) := by decide +kernel
theorem dX12_say_21 : decode cX12_say 21 = .ok (.iload 4, 2) := by decide +kernel
theorem dX12_say_23 : decode cX12_say 23 = .ok (.invokevirtual 222, 3) := by decide +kernel
theorem dX12_say_26 : decode cX12_say 26 = .ok (.ifCond .ne 5, 3) := by decide +kernel
theorem dX12_say_29 : decode cX12_say 29 = .ok (.iconst (-1), 1) := by decide +kernel
theorem dX12_say_30 : decode cX12_say 30 = .ok (.ireturn, 1) := by decide +kernel
theorem dX12_saidMany_0 : decode cX12_saidMany 0 = .ok (.iconst 0, 1) := by decide +kernel
theorem dX12_saidMany_1 : decode cX12_saidMany 1 = .ok (.istore_n 1, 1) := by decide +kernel
theorem dX12_saidMany_2 : decode cX12_saidMany 2 = .ok (.iconst 0, 1) := by decide +kernel
theorem dX12_saidMany_3 : decode cX12_saidMany 3 = .ok (.istore_n 2, 1) := by decide +kernel
theorem dX12_saidMany_4 : decode cX12_saidMany 4 = .ok (.iload_n 2, 1) := by decide +kernel
theorem dX12_saidMany_5 : decode cX12_saidMany 5 = .ok (.aload_n 0, 1) := by decide +kernel
theorem dX12_saidMany_6 : decode cX12_saidMany 6 = .ok (.getfield 202, 3) := by decide +kernel
theorem dX12_saidMany_9 : decode cX12_saidMany 9 = .ok (.if_icmp .ge 26, 3) := by decide +kernel
theorem dX12_saidMany_35 : decode cX12_saidMany 35 = .ok (.iload_n 1, 1) := by decide +kernel
theorem dX12_saidMany_36 : decode cX12_saidMany 36 = .ok (.ireturn, 1) := by decide +kernel
theorem dX12_unsay_0 : decode cX12_unsay 0 = .ok (.iload_n 1, 1) := by decide +kernel
theorem dX12_unsay_1 : decode cX12_unsay 1 = .ok (.i2l, 1) := by decide +kernel
theorem dX12_unsay_2 : decode cX12_unsay 2 = .ok (.lconst 0, 1) := by decide +kernel
theorem dX12_unsay_3 : decode cX12_unsay 3 = .ok (.aload_n 0, 1) := by decide +kernel
theorem dX12_unsay_4 : decode cX12_unsay 4 = .ok (.getfield 202, 3) := by decide +kernel
theorem dX12_unsay_7 : decode cX12_unsay 7 = .ok (.iconst 1, 1) := by decide +kernel
theorem dX12_unsay_8 : decode cX12_unsay 8 = .ok (.isub, 1) := by decide +kernel
theorem dX12_unsay_9 : decode cX12_unsay 9 = .ok (.i2l, 1) := by decide +kernel
theorem dX12_unsay_10 : decode cX12_unsay 10 = .ok (.invokestatic 166, 3) := by decide +kernel
theorem dX12_unsay_13 : decode cX12_unsay 13 = .ok (.ifCond .eq 12, 3) := by decide +kernel
theorem dX12_unsay_25 : decode cX12_unsay 25 = .ok (.iconst (-1), 1) := by decide +kernel
theorem dX12_unsay_26 : decode cX12_unsay 26 = .ok (.ireturn, 1) := by decide +kernel
theorem dX12_clash_0 : decode cX12_clash 0 = .ok (.iload_n 1, 1) := by decide +kernel
theorem dX12_clash_1 : decode cX12_clash 1 = .ok (.i2l, 1) := by decide +kernel
theorem dX12_clash_2 : decode cX12_clash 2 = .ok (.lconst 0, 1) := by decide +kernel
theorem dX12_clash_3 : decode cX12_clash 3 = .ok (.aload_n 0, 1) := by decide +kernel
theorem dX12_clash_4 : decode cX12_clash 4 = .ok (.getfield 205, 3) := by decide +kernel
theorem dX12_clash_7 : decode cX12_clash 7 = .ok (.iconst 1, 1) := by decide +kernel
theorem dX12_clash_8 : decode cX12_clash 8 = .ok (.isub, 1) := by decide +kernel
theorem dX12_clash_9 : decode cX12_clash 9 = .ok (.i2l, 1) := by decide +kernel
theorem dX12_clash_10 : decode cX12_clash 10 = .ok (.invokestatic 166, 3) := by decide +kernel
theorem dX12_clash_13 : decode cX12_clash 13 = .ok (.ifCond .eq 12, 3) := by decide +kernel
theorem dX12_clash_25 : decode cX12_clash 25 = .ok (.bipush (-9), 2) := by decide +kernel
theorem dX12_clash_27 : decode cX12_clash 27 = .ok (.ireturn, 1) := by decide +kernel
theorem dX12_sentence_0 : decode cX12_sentence 0 = .ok (.iload_n 1, 1) := by decide +kernel
theorem dX12_sentence_1 : decode cX12_sentence 1 = .ok (.i2l, 1) := by decide +kernel
theorem dX12_sentence_2 : decode cX12_sentence 2 = .ok (.lconst 0, 1) := by decide +kernel
theorem dX12_sentence_3 : decode cX12_sentence 3 = .ok (.aload_n 0, 1) := by decide +kernel
theorem dX12_sentence_4 : decode cX12_sentence 4 = .ok (.getfield 202, 3) := by decide +kernel
theorem dX12_sentence_7 : decode cX12_sentence 7 = .ok (.iconst 1, 1) := by decide +kernel
theorem dX12_sentence_8 : decode cX12_sentence 8 = .ok (.isub, 1) := by decide +kernel
theorem dX12_sentence_9 : decode cX12_sentence 9 = .ok (.i2l, 1) := by decide +kernel
theorem dX12_sentence_10 : decode cX12_sentence 10 = .ok (.invokestatic 166, 3) := by decide +kernel
theorem dX12_sentence_13 : decode cX12_sentence 13 = .ok (.ifCond .eq 15, 3) := by decide +kernel
theorem dX12_sentence_28 : decode cX12_sentence 28 = .ok (.iconst (-1), 1) := by decide +kernel
theorem dX12_sentence_29 : decode cX12_sentence 29 = .ok (.ireturn, 1) := by decide +kernel
theorem dX12_place_0 : decode cX12_place 0 = .ok (.aload_n 0, 1) := by decide +kernel
theorem dX12_place_1 : decode cX12_place 1 = .ok (.iload_n 1, 1) := by decide +kernel
theorem dX12_place_2 : decode cX12_place 2 = .ok (.invokevirtual 180, 3) := by decide +kernel
theorem dX12_place_5 : decode cX12_place 5 = .ok (.ifCond .eq 15, 3) := by decide +kernel
theorem dX12_place_20 : decode cX12_place 20 = .ok (.iconst (-1), 1) := by decide +kernel
theorem dX12_place_21 : decode cX12_place 21 = .ok (.ireturn, 1) := by decide +kernel
theorem dX12_flag_0 : decode cX12_flag 0 = .ok (.aload_n 0, 1) := by decide +kernel
theorem dX12_flag_1 : decode cX12_flag 1 = .ok (.iload_n 1, 1) := by decide +kernel
theorem dX12_flag_2 : decode cX12_flag 2 = .ok (.invokevirtual 180, 3) := by decide +kernel
theorem dX12_flag_5 : decode cX12_flag 5 = .ok (.ifCond .eq 15, 3) := by decide +kernel
theorem dX12_flag_20 : decode cX12_flag 20 = .ok (.iconst (-1), 1) := by decide +kernel
theorem dX12_flag_21 : decode cX12_flag 21 = .ok (.ireturn, 1) := by decide +kernel
theorem dX12_key_0 : decode cX12_key 0 = .ok (.aload_n 0, 1) := by decide +kernel
theorem dX12_key_1 : decode cX12_key 1 = .ok (.iload_n 1, 1) := by decide +kernel
theorem dX12_key_2 : decode cX12_key 2 = .ok (.invokevirtual 180, 3) := by decide +kernel
theorem dX12_key_5 : decode cX12_key 5 = .ok (.ifCond .ne 7, 3) := by decide +kernel
theorem dX12_key_8 : decode cX12_key 8 = .ok (.iconst (-1), 1) := by decide +kernel
theorem dX12_key_9 : decode cX12_key 9 = .ok (.goto 24, 3) := by decide +kernel
theorem dX12_key_33 : decode cX12_key 33 = .ok (.ireturn, 1) := by decide +kernel
theorem dX12_exit_0 : decode cX12_exit 0 = .ok (.aload_n 0, 1) := by decide +kernel
theorem dX12_exit_1 : decode cX12_exit 1 = .ok (.iload_n 1, 1) := by decide +kernel
theorem dX12_exit_2 : decode cX12_exit 2 = .ok (.invokevirtual 180, 3) := by decide +kernel
theorem dX12_exit_5 : decode cX12_exit 5 = .ok (.ifCond .eq 27, 3) := by decide +kernel
theorem dX12_exit_32 : decode cX12_exit 32 = .ok (.iconst (-1), 1) := by decide +kernel
theorem dX12_exit_33 : decode cX12_exit 33 = .ok (.ireturn, 1) := by decide +kernel
theorem dX12_wayRefused_0 : decode cX12_wayRefused 0 = .ok (.aload_n 0, 1) := by decide +kernel
theorem dX12_wayRefused_1 : decode cX12_wayRefused 1 = .ok (.iload_n 1, 1) := by decide +kernel
theorem dX12_wayRefused_2 : decode cX12_wayRefused 2 = .ok (.invokevirtual 180, 3) := by decide +kernel
theorem dX12_wayRefused_5 : decode cX12_wayRefused 5 = .ok (.ifCond .eq 11, 3) := by decide +kernel
theorem dX12_wayRefused_16 : decode cX12_wayRefused 16 = .ok (.iconst (-1), 1) := by decide +kernel
theorem dX12_wayRefused_17 : decode cX12_wayRefused 17 = .ok (.goto 30, 3) := by decide +kernel
theorem dX12_wayRefused_47 : decode cX12_wayRefused 47 = .ok (.ireturn, 1) := by decide +kernel
theorem dX12_way_0 : decode cX12_way 0 = .ok (.aload_n 0, 1) := by decide +kernel
theorem dX12_way_1 : decode cX12_way 1 = .ok (.iload_n 1, 1) := by decide +kernel
theorem dX12_way_2 : decode cX12_way 2 = .ok (.iload_n 2, 1) := by decide +kernel
theorem dX12_way_3 : decode cX12_way 3 = .ok (.invokevirtual 284, 3) := by decide +kernel
theorem dX12_way_6 : decode cX12_way 6 = .ok (.istore 4, 2) := by decide +kernel
theorem dX12_way_8 : decode cX12_way 8 = .ok (.iload 4, 2) := by decide +kernel
theorem dX12_way_10 : decode cX12_way 10 = .ok (.ifCond .ge 6, 3) := by decide +kernel
theorem dX12_way_13 : decode cX12_way 13 = .ok (.iload 4, 2) := by decide +kernel
theorem dX12_way_15 : decode cX12_way 15 = .ok (.ireturn, 1) := by decide +kernel
theorem dX12_toward_0 : decode cX12_toward 0 = .ok (.aload_n 0, 1) := by decide +kernel
theorem dX12_toward_1 : decode cX12_toward 1 = .ok (.iload_n 1, 1) := by decide +kernel
theorem dX12_toward_2 : decode cX12_toward 2 = .ok (.iload_n 2, 1) := by decide +kernel
theorem dX12_toward_3 : decode cX12_toward 3 = .ok (.invokevirtual 284, 3) := by decide +kernel
theorem dX12_toward_6 : decode cX12_toward 6 = .ok (.istore 4, 2) := by decide +kernel
theorem dX12_toward_8 : decode cX12_toward 8 = .ok (.iload 4, 2) := by decide +kernel
theorem dX12_toward_10 : decode cX12_toward 10 = .ok (.ifCond .ge 6, 3) := by decide +kernel
theorem dX12_toward_13 : decode cX12_toward 13 = .ok (.iload 4, 2) := by decide +kernel
theorem dX12_toward_15 : decode cX12_toward 15 = .ok (.ireturn, 1) := by decide +kernel
theorem dX12_endTale_0 : decode cX12_endTale 0 = .ok (.aload_n 0, 1) := by decide +kernel
theorem dX12_endTale_1 : decode cX12_endTale 1 = .ok (.bipush (-9), 2) := by decide +kernel
theorem dX12_endTale_3 : decode cX12_endTale 3 = .ok (.putfield 155, 3) := by decide +kernel
theorem dX12_endTale_6 : decode cX12_endTale 6 = .ok (.aload_n 0, 1) := by decide +kernel
theorem dX12_endTale_7 : decode cX12_endTale 7 = .ok (.iconst 0, 1) := by decide +kernel
theorem dX12_endTale_8 : decode cX12_endTale 8 = .ok (.putfield 291, 3) := by decide +kernel
theorem dX12_endTale_11 : decode cX12_endTale 11 = .ok (.return_, 1) := by decide +kernel
theorem dX12_bulk_0 : decode cX12_bulk 0 = .ok (.aload_n 0, 1) := by decide +kernel
theorem dX12_bulk_1 : decode cX12_bulk 1 = .ok (.iload_n 1, 1) := by decide +kernel
theorem dX12_bulk_2 : decode cX12_bulk 2 = .ok (.invokevirtual 180, 3) := by decide +kernel
theorem dX12_bulk_5 : decode cX12_bulk 5 = .ok (.ifCond .ne 5, 3) := by decide +kernel
theorem dX12_bulk_8 : decode cX12_bulk 8 = .ok (.iconst (-1), 1) := by decide +kernel
theorem dX12_bulk_9 : decode cX12_bulk 9 = .ok (.ireturn, 1) := by decide +kernel
theorem dX12_asked_0 : decode cX12_asked 0 = .ok (.aload_n 0, 1) := by decide +kernel
theorem dX12_asked_1 : decode cX12_asked 1 = .ok (.getfield 318, 3) := by decide +kernel
theorem dX12_asked_4 : decode cX12_asked 4 = .ok (.lreturn, 1) := by decide +kernel
theorem dX12_trace_0 : decode cX12_trace 0 = .ok (.iload_n 1, 1) := by decide +kernel
theorem dX12_trace_1 : decode cX12_trace 1 = .ok (.i2l, 1) := by decide +kernel
theorem dX12_trace_2 : decode cX12_trace 2 = .ok (.lconst 0, 1) := by decide +kernel
theorem dX12_trace_3 : decode cX12_trace 3 = .ok (.aload_n 0, 1) := by decide +kernel
theorem dX12_trace_4 : decode cX12_trace 4 = .ok (.getfield 297, 3) := by decide +kernel
theorem dX12_trace_7 : decode cX12_trace 7 = .ok (.iconst 1, 1) := by decide +kernel
theorem dX12_trace_8 : decode cX12_trace 8 = .ok (.isub, 1) := by decide +kernel
theorem dX12_trace_9 : decode cX12_trace 9 = .ok (.i2l, 1) := by decide +kernel
theorem dX12_trace_10 : decode cX12_trace 10 = .ok (.invokestatic 166, 3) := by decide +kernel
theorem dX12_trace_13 : decode cX12_trace 13 = .ok (.ifCond .eq 12, 3) := by decide +kernel
theorem dX12_trace_25 : decode cX12_trace 25 = .ok (.bipush (-9), 2) := by decide +kernel
theorem dX12_trace_27 : decode cX12_trace 27 = .ok (.ireturn, 1) := by decide +kernel
theorem dX12_share_0 : decode cX12_share 0 = .ok (.aload_n 0, 1) := by decide +kernel
theorem dX12_share_1 : decode cX12_share 1 = .ok (.iload_n 1, 1) := by decide +kernel
theorem dX12_share_2 : decode cX12_share 2 = .ok (.invokevirtual 180, 3) := by decide +kernel
theorem dX12_share_5 : decode cX12_share 5 = .ok (.ifCond .eq 11, 3) := by decide +kernel
theorem dX12_share_16 : decode cX12_share 16 = .ok (.iconst (-1), 1) := by decide +kernel
theorem dX12_share_17 : decode cX12_share 17 = .ok (.ireturn, 1) := by decide +kernel
theorem dX12_begin_0 : decode cX12_begin 0 = .ok (.aload_n 0, 1) := by decide +kernel
theorem dX12_begin_1 : decode cX12_begin 1 = .ok (.iload_n 1, 1) := by decide +kernel
theorem dX12_begin_2 : decode cX12_begin 2 = .ok (.invokevirtual 180, 3) := by decide +kernel
theorem dX12_begin_5 : decode cX12_begin 5 = .ok (.ifCond .ne 5, 3) := by decide +kernel
theorem dX12_begin_8 : decode cX12_begin 8 = .ok (.iconst (-1), 1) := by decide +kernel
theorem dX12_begin_9 : decode cX12_begin 9 = .ok (.ireturn, 1) := by decide +kernel
theorem dX12_hasSecond_0 : decode cX12_hasSecond 0 = .ok (.iload_n 0, 1) := by decide +kernel
theorem dX12_hasSecond_1 : decode cX12_hasSecond 1 = .ok (.iconst 3, 1) := by decide +kernel
theorem dX12_hasSecond_2 : decode cX12_hasSecond 2 = .ok (.if_icmp .eq 20, 3) := by decide +kernel
theorem dX12_hasSecond_5 : decode cX12_hasSecond 5 = .ok (.iload_n 0, 1) := by decide +kernel
theorem dX12_hasSecond_6 : decode cX12_hasSecond 6 = .ok (.iconst 4, 1) := by decide +kernel
theorem dX12_hasSecond_7 : decode cX12_hasSecond 7 = .ok (.if_icmp .eq 15, 3) := by decide +kernel
theorem dX12_hasSecond_10 : decode cX12_hasSecond 10 = .ok (.iload_n 0, 1) := by decide +kernel
theorem dX12_hasSecond_11 : decode cX12_hasSecond 11 = .ok (.bipush 7, 2) := by decide +kernel
theorem dX12_hasSecond_13 : decode cX12_hasSecond 13 = .ok (.if_icmp .eq 9, 3) := by decide +kernel
theorem dX12_hasSecond_16 : decode cX12_hasSecond 16 = .ok (.iload_n 0, 1) := by decide +kernel
theorem dX12_hasSecond_17 : decode cX12_hasSecond 17 = .ok (.bipush 8, 2) := by decide +kernel
theorem dX12_hasSecond_19 : decode cX12_hasSecond 19 = .ok (.if_icmp .ne 7, 3) := by decide +kernel
theorem dX12_hasSecond_22 : decode cX12_hasSecond 22 = .ok (.iconst 1, 1) := by decide +kernel
theorem dX12_hasSecond_23 : decode cX12_hasSecond 23 = .ok (.goto 4, 3) := by decide +kernel
theorem dX12_hasSecond_26 : decode cX12_hasSecond 26 = .ok (.iconst 0, 1) := by decide +kernel
theorem dX12_hasSecond_27 : decode cX12_hasSecond 27 = .ok (.ireturn, 1) := by decide +kernel
theorem dX12_act_0 : decode cX12_act 0 = .ok (.iload_n 1, 1) := by decide +kernel
theorem dX12_act_1 : decode cX12_act 1 = .ok (.i2l, 1) := by decide +kernel
theorem dX12_act_2 : decode cX12_act 2 = .ok (.lconst 0, 1) := by decide +kernel
theorem dX12_act_3 : decode cX12_act 3 = .ok (.ldc2_w 385, 3) := by decide +kernel
theorem dX12_act_6 : decode cX12_act 6 = .ok (.invokestatic 166, 3) := by decide +kernel
theorem dX12_act_9 : decode cX12_act 9 = .ok (.ifCond .eq 54, 3) := by decide +kernel
theorem dX12_act_12 : decode cX12_act 12 = .ok (.iload_n 1, 1) := by decide +kernel
theorem dX12_act_13 : decode cX12_act 13 = .ok (.ifCond .ne 15, 3) := by decide +kernel
theorem dX12_act_16 : decode cX12_act 16 = .ok (.iload_n 2, 1) := by decide +kernel
theorem dX12_act_17 : decode cX12_act 17 = .ok (.i2l, 1) := by decide +kernel
theorem dX12_act_18 : decode cX12_act 18 = .ok (.lconst 0, 1) := by decide +kernel
theorem dX12_act_19 : decode cX12_act 19 = .ok (.ldc2_w 197, 3) := by decide +kernel
theorem dX12_act_22 : decode cX12_act 22 = .ok (.invokestatic 166, 3) := by decide +kernel
theorem dX12_act_25 : decode cX12_act 25 = .ok (.ifCond .eq 38, 3) := by decide +kernel
theorem dX12_act_28 : decode cX12_act 28 = .ok (.iload_n 1, 1) := by decide +kernel
theorem dX12_act_29 : decode cX12_act 29 = .ok (.i2l, 1) := by decide +kernel
theorem dX12_act_30 : decode cX12_act 30 = .ok (.lconst 1, 1) := by decide +kernel
theorem dX12_act_31 : decode cX12_act 31 = .ok (.ldc2_w 387, 3) := by decide +kernel
theorem dX12_act_34 : decode cX12_act 34 = .ok (.invokestatic 166, 3) := by decide +kernel
theorem dX12_act_37 : decode cX12_act 37 = .ok (.ifCond .eq 11, 3) := by decide +kernel
theorem dX12_act_40 : decode cX12_act 40 = .ok (.aload_n 0, 1) := by decide +kernel
theorem dX12_act_41 : decode cX12_act 41 = .ok (.iload_n 2, 1) := by decide +kernel
theorem dX12_act_42 : decode cX12_act 42 = .ok (.invokevirtual 180, 3) := by decide +kernel
theorem dX12_act_45 : decode cX12_act 45 = .ok (.ifCond .eq 18, 3) := by decide +kernel
theorem dX12_act_48 : decode cX12_act 48 = .ok (.iload_n 1, 1) := by decide +kernel
theorem dX12_act_49 : decode cX12_act 49 = .ok (.invokestatic 389, 3) := by decide +kernel
theorem dX12_act_52 : decode cX12_act 52 = .ok (.ifCond .eq 13, 3) := by decide +kernel
theorem dX12_act_55 : decode cX12_act 55 = .ok (.aload_n 0, 1) := by decide +kernel
theorem dX12_act_56 : decode cX12_act 56 = .ok (.iload_n 3, 1) := by decide +kernel
theorem dX12_act_57 : decode cX12_act 57 = .ok (.invokevirtual 180, 3) := by decide +kernel
theorem dX12_act_60 : decode cX12_act 60 = .ok (.ifCond .ne 5, 3) := by decide +kernel
theorem dX12_act_63 : decode cX12_act 63 = .ok (.iconst (-1), 1) := by decide +kernel
theorem dX12_act_64 : decode cX12_act 64 = .ok (.ireturn, 1) := by decide +kernel
theorem dX12_act_65 : decode cX12_act 65 = .ok (.aload_n 0, 1) := by decide +kernel
theorem dX12_act_66 : decode cX12_act 66 = .ok (.getfield 155, 3) := by decide +kernel
theorem dX12_act_69 : decode cX12_act 69 = .ok (.bipush (-9), 2) := by decide +kernel
theorem dX12_act_71 : decode cX12_act 71 = .ok (.if_icmp .eq 15, 3) := by decide +kernel
theorem dX12_act_86 : decode cX12_act 86 = .ok (.aload_n 0, 1) := by decide +kernel
theorem dX12_act_87 : decode cX12_act 87 = .ok (.getfield 155, 3) := by decide +kernel
theorem dX12_act_90 : decode cX12_act 90 = .ok (.bipush (-9), 2) := by decide +kernel
theorem dX12_act_92 : decode cX12_act 92 = .ok (.if_icmp .ne 6, 3) := by decide +kernel
theorem dX12_act_95 : decode cX12_act 95 = .ok (.bipush (-5), 2) := by decide +kernel
theorem dX12_act_97 : decode cX12_act 97 = .ok (.ireturn, 1) := by decide +kernel
theorem dX12_back_0 : decode cX12_back 0 = .ok (.aload_n 0, 1) := by decide +kernel
theorem dX12_back_1 : decode cX12_back 1 = .ok (.getfield 155, 3) := by decide +kernel
theorem dX12_back_4 : decode cX12_back 4 = .ok (.bipush (-9), 2) := by decide +kernel
theorem dX12_back_6 : decode cX12_back 6 = .ok (.if_icmp .eq 10, 3) := by decide +kernel
theorem dX12_back_16 : decode cX12_back 16 = .ok (.bipush (-5), 2) := by decide +kernel
theorem dX12_back_18 : decode cX12_back 18 = .ok (.ireturn, 1) := by decide +kernel
theorem dX12_now_0 : decode cX12_now 0 = .ok (.aload_n 0, 1) := by decide +kernel
theorem dX12_now_1 : decode cX12_now 1 = .ok (.iload_n 1, 1) := by decide +kernel
theorem dX12_now_2 : decode cX12_now 2 = .ok (.invokevirtual 180, 3) := by decide +kernel
theorem dX12_now_5 : decode cX12_now 5 = .ok (.ifCond .eq 15, 3) := by decide +kernel
theorem dX12_now_20 : decode cX12_now 20 = .ok (.iconst (-1), 1) := by decide +kernel
theorem dX12_now_21 : decode cX12_now 21 = .ok (.ireturn, 1) := by decide +kernel
theorem dX12_turn_0 : decode cX12_turn 0 = .ok (.iload_n 1, 1) := by decide +kernel
theorem dX12_turn_1 : decode cX12_turn 1 = .ok (.ifCond .lt 15, 3) := by decide +kernel
theorem dX12_turn_4 : decode cX12_turn 4 = .ok (.iload_n 2, 1) := by decide +kernel
theorem dX12_turn_5 : decode cX12_turn 5 = .ok (.i2l, 1) := by decide +kernel
theorem dX12_turn_6 : decode cX12_turn 6 = .ok (.lconst 0, 1) := by decide +kernel
theorem dX12_turn_7 : decode cX12_turn 7 = .ok (.ldc2_w 254, 3) := by decide +kernel
theorem dX12_turn_10 : decode cX12_turn 10 = .ok (.invokestatic 166, 3) := by decide +kernel
theorem dX12_turn_13 : decode cX12_turn 13 = .ok (.ifCond .ne 5, 3) := by decide +kernel
theorem dX12_turn_16 : decode cX12_turn 16 = .ok (.iconst (-1), 1) := by decide +kernel
theorem dX12_turn_17 : decode cX12_turn 17 = .ok (.ireturn, 1) := by decide +kernel
theorem dX12_turn_18 : decode cX12_turn 18 = .ok (.aload_n 0, 1) := by decide +kernel
theorem dX12_turn_19 : decode cX12_turn 19 = .ok (.getfield 155, 3) := by decide +kernel
theorem dX12_turn_22 : decode cX12_turn 22 = .ok (.bipush (-9), 2) := by decide +kernel
theorem dX12_turn_24 : decode cX12_turn 24 = .ok (.if_icmp .ne 6, 3) := by decide +kernel
theorem dX12_turn_27 : decode cX12_turn 27 = .ok (.bipush (-5), 2) := by decide +kernel
theorem dX12_turn_29 : decode cX12_turn 29 = .ok (.ireturn, 1) := by decide +kernel
theorem dX12_light_0 : decode cX12_light 0 = .ok (.aload_n 0, 1) := by decide +kernel
theorem dX12_light_1 : decode cX12_light 1 = .ok (.getfield 155, 3) := by decide +kernel
theorem dX12_light_4 : decode cX12_light 4 = .ok (.bipush (-9), 2) := by decide +kernel
theorem dX12_light_6 : decode cX12_light 6 = .ok (.if_icmp .ne 6, 3) := by decide +kernel
theorem dX12_light_9 : decode cX12_light 9 = .ok (.bipush (-5), 2) := by decide +kernel
theorem dX12_light_11 : decode cX12_light 11 = .ok (.ireturn, 1) := by decide +kernel
theorem dX12_seek_0 : decode cX12_seek 0 = .ok (.aload_n 0, 1) := by decide +kernel
theorem dX12_seek_1 : decode cX12_seek 1 = .ok (.iload_n 1, 1) := by decide +kernel
theorem dX12_seek_2 : decode cX12_seek 2 = .ok (.invokevirtual 180, 3) := by decide +kernel
theorem dX12_seek_5 : decode cX12_seek 5 = .ok (.ifCond .eq 23, 3) := by decide +kernel
theorem dX12_seek_28 : decode cX12_seek 28 = .ok (.iconst (-1), 1) := by decide +kernel
theorem dX12_seek_29 : decode cX12_seek 29 = .ok (.ireturn, 1) := by decide +kernel
theorem dX12_sought_0 : decode cX12_sought 0 = .ok (.iload_n 2, 1) := by decide +kernel
theorem dX12_sought_1 : decode cX12_sought 1 = .ok (.i2l, 1) := by decide +kernel
theorem dX12_sought_2 : decode cX12_sought 2 = .ok (.lconst 0, 1) := by decide +kernel
theorem dX12_sought_3 : decode cX12_sought 3 = .ok (.ldc2_w 254, 3) := by decide +kernel
theorem dX12_sought_6 : decode cX12_sought 6 = .ok (.invokestatic 166, 3) := by decide +kernel
theorem dX12_sought_9 : decode cX12_sought 9 = .ok (.ifCond .ne 5, 3) := by decide +kernel
theorem dX12_sought_12 : decode cX12_sought 12 = .ok (.iconst (-1), 1) := by decide +kernel
theorem dX12_sought_13 : decode cX12_sought 13 = .ok (.ireturn, 1) := by decide +kernel
theorem dX12_sought_14 : decode cX12_sought 14 = .ok (.iload_n 1, 1) := by decide +kernel
theorem dX12_sought_15 : decode cX12_sought 15 = .ok (.i2l, 1) := by decide +kernel
theorem dX12_sought_16 : decode cX12_sought 16 = .ok (.lconst 0, 1) := by decide +kernel
theorem dX12_sought_17 : decode cX12_sought 17 = .ok (.aload_n 0, 1) := by decide +kernel
theorem dX12_sought_18 : decode cX12_sought 18 = .ok (.getfield 158, 3) := by decide +kernel
theorem dX12_sought_21 : decode cX12_sought 21 = .ok (.iconst 1, 1) := by decide +kernel
theorem dX12_sought_22 : decode cX12_sought 22 = .ok (.isub, 1) := by decide +kernel
theorem dX12_sought_23 : decode cX12_sought 23 = .ok (.i2l, 1) := by decide +kernel
theorem dX12_sought_24 : decode cX12_sought 24 = .ok (.invokestatic 166, 3) := by decide +kernel
theorem dX12_sought_27 : decode cX12_sought 27 = .ok (.ifCond .eq 16, 3) := by decide +kernel
theorem dX12_sought_43 : decode cX12_sought 43 = .ok (.bipush (-9), 2) := by decide +kernel
theorem dX12_sought_45 : decode cX12_sought 45 = .ok (.ireturn, 1) := by decide +kernel
theorem dX12_line_0 : decode cX12_line 0 = .ok (.aload_n 0, 1) := by decide +kernel
theorem dX12_line_1 : decode cX12_line 1 = .ok (.iload_n 1, 1) := by decide +kernel
theorem dX12_line_2 : decode cX12_line 2 = .ok (.invokevirtual 180, 3) := by decide +kernel
theorem dX12_line_5 : decode cX12_line 5 = .ok (.ifCond .eq 21, 3) := by decide +kernel
theorem dX12_line_26 : decode cX12_line 26 = .ok (.iconst (-1), 1) := by decide +kernel
theorem dX12_line_27 : decode cX12_line 27 = .ok (.ireturn, 1) := by decide +kernel
theorem dX12_put_0 : decode cX12_put 0 = .ok (.aload_n 0, 1) := by decide +kernel
theorem dX12_put_1 : decode cX12_put 1 = .ok (.iload_n 1, 1) := by decide +kernel
theorem dX12_put_2 : decode cX12_put 2 = .ok (.invokevirtual 180, 3) := by decide +kernel
theorem dX12_put_5 : decode cX12_put 5 = .ok (.ifCond .eq 15, 3) := by decide +kernel
theorem dX12_put_20 : decode cX12_put 20 = .ok (.iconst (-1), 1) := by decide +kernel
theorem dX12_put_21 : decode cX12_put 21 = .ok (.ireturn, 1) := by decide +kernel
theorem dX12_item_0 : decode cX12_item 0 = .ok (.aload_n 0, 1) := by decide +kernel
theorem dX12_item_1 : decode cX12_item 1 = .ok (.iload_n 1, 1) := by decide +kernel
theorem dX12_item_2 : decode cX12_item 2 = .ok (.invokevirtual 180, 3) := by decide +kernel
theorem dX12_item_5 : decode cX12_item 5 = .ok (.ifCond .eq 15, 3) := by decide +kernel
theorem dX12_item_20 : decode cX12_item 20 = .ok (.iconst (-1), 1) := by decide +kernel
theorem dX12_item_21 : decode cX12_item 21 = .ok (.ireturn, 1) := by decide +kernel
theorem dX12_copy_0 : decode cX12_copy 0 = .ok (.aload_n 0, 1) := by decide +kernel
theorem dX12_copy_1 : decode cX12_copy 1 = .ok (.iload_n 1, 1) := by decide +kernel
theorem dX12_copy_2 : decode cX12_copy 2 = .ok (.invokevirtual 180, 3) := by decide +kernel
theorem dX12_copy_5 : decode cX12_copy 5 = .ok (.ifCond .eq 24, 3) := by decide +kernel
theorem dX12_copy_29 : decode cX12_copy 29 = .ok (.iconst (-1), 1) := by decide +kernel
theorem dX12_copy_30 : decode cX12_copy 30 = .ok (.ireturn, 1) := by decide +kernel
theorem dX12_cast_0 : decode cX12_cast 0 = .ok (.iload_n 1, 1) := by decide +kernel
theorem dX12_cast_1 : decode cX12_cast 1 = .ok (.i2l, 1) := by decide +kernel
theorem dX12_cast_2 : decode cX12_cast 2 = .ok (.lconst 1, 1) := by decide +kernel
theorem dX12_cast_3 : decode cX12_cast 3 = .ok (.ldc2_w 170, 3) := by decide +kernel
theorem dX12_cast_6 : decode cX12_cast 6 = .ok (.invokestatic 166, 3) := by decide +kernel
theorem dX12_cast_9 : decode cX12_cast 9 = .ok (.ifCond .eq 9, 3) := by decide +kernel
theorem dX12_cast_12 : decode cX12_cast 12 = .ok (.iload_n 2, 1) := by decide +kernel
theorem dX12_cast_13 : decode cX12_cast 13 = .ok (.bipush 12, 2) := by decide +kernel
theorem dX12_cast_15 : decode cX12_cast 15 = .ok (.if_icmp .le 5, 3) := by decide +kernel
theorem dX12_cast_18 : decode cX12_cast 18 = .ok (.iconst (-1), 1) := by decide +kernel
theorem dX12_cast_19 : decode cX12_cast 19 = .ok (.ireturn, 1) := by decide +kernel
theorem dX12_cast_20 : decode cX12_cast 20 = .ok (.aload_n 0, 1) := by decide +kernel
theorem dX12_cast_21 : decode cX12_cast 21 = .ok (.getfield 450, 3) := by decide +kernel
theorem dX12_cast_24 : decode cX12_cast 24 = .ok (.bipush 10, 2) := by decide +kernel
theorem dX12_cast_26 : decode cX12_cast 26 = .ok (.if_icmp .ne 6, 3) := by decide +kernel
theorem dX12_cast_32 : decode cX12_cast 32 = .ok (.iload_n 2, 1) := by decide +kernel
theorem dX12_cast_33 : decode cX12_cast 33 = .ok (.ifCond .ge 9, 3) := by decide +kernel
theorem dX12_cast_36 : decode cX12_cast 36 = .ok (.aload_n 0, 1) := by decide +kernel
theorem dX12_cast_37 : decode cX12_cast 37 = .ok (.iconst 5, 1) := by decide +kernel
theorem dX12_cast_38 : decode cX12_cast 38 = .ok (.invokevirtual 233, 3) := by decide +kernel
theorem dX12_cast_41 : decode cX12_cast 41 = .ok (.ireturn, 1) := by decide +kernel
theorem dX12_cast_42 : decode cX12_cast 42 = .ok (.aload_n 0, 1) := by decide +kernel
theorem dX12_cast_43 : decode cX12_cast 43 = .ok (.getfield 139, 3) := by decide +kernel
theorem dX12_cast_46 : decode cX12_cast 46 = .ok (.aload_n 0, 1) := by decide +kernel
theorem dX12_cast_47 : decode cX12_cast 47 = .ok (.getfield 450, 3) := by decide +kernel
theorem dX12_cast_50 : decode cX12_cast 50 = .ok (.iload_n 1, 1) := by decide +kernel
theorem dX12_cast_51 : decode cX12_cast 51 = .ok (.iastore, 1) := by decide +kernel
theorem dX12_cast_52 : decode cX12_cast 52 = .ok (.aload_n 0, 1) := by decide +kernel
theorem dX12_cast_53 : decode cX12_cast 53 = .ok (.getfield 142, 3) := by decide +kernel
theorem dX12_cast_56 : decode cX12_cast 56 = .ok (.aload_n 0, 1) := by decide +kernel
theorem dX12_cast_57 : decode cX12_cast 57 = .ok (.getfield 450, 3) := by decide +kernel
theorem dX12_cast_60 : decode cX12_cast 60 = .ok (.iload_n 2, 1) := by decide +kernel
theorem dX12_cast_61 : decode cX12_cast 61 = .ok (.iastore, 1) := by decide +kernel
theorem dX12_cast_62 : decode cX12_cast 62 = .ok (.iconst 0, 1) := by decide +kernel
theorem dX12_cast_63 : decode cX12_cast 63 = .ok (.istore_n 3, 1) := by decide +kernel
theorem dX12_cast_64 : decode cX12_cast 64 = .ok (.iload_n 3, 1) := by decide +kernel
theorem dX12_cast_65 : decode cX12_cast 65 = .ok (.bipush 12, 2) := by decide +kernel
theorem dX12_cast_67 : decode cX12_cast 67 = .ok (.if_icmp .ge 25, 3) := by decide +kernel
theorem dX12_cast_70 : decode cX12_cast 70 = .ok (.aload_n 0, 1) := by decide +kernel
theorem dX12_cast_71 : decode cX12_cast 71 = .ok (.getfield 145, 3) := by decide +kernel
theorem dX12_cast_74 : decode cX12_cast 74 = .ok (.bipush 12, 2) := by decide +kernel
theorem dX12_cast_76 : decode cX12_cast 76 = .ok (.aload_n 0, 1) := by decide +kernel
theorem dX12_cast_77 : decode cX12_cast 77 = .ok (.getfield 450, 3) := by decide +kernel
theorem dX12_cast_80 : decode cX12_cast 80 = .ok (.imul, 1) := by decide +kernel
theorem dX12_cast_81 : decode cX12_cast 81 = .ok (.iload_n 3, 1) := by decide +kernel
theorem dX12_cast_82 : decode cX12_cast 82 = .ok (.iadd, 1) := by decide +kernel
theorem dX12_cast_83 : decode cX12_cast 83 = .ok (.bipush (-9), 2) := by decide +kernel
theorem dX12_cast_85 : decode cX12_cast 85 = .ok (.iastore, 1) := by decide +kernel
theorem dX12_cast_86 : decode cX12_cast 86 = .ok (.iinc 3 1, 3) := by decide +kernel
theorem dX12_cast_89 : decode cX12_cast 89 = .ok (.goto (-25), 3) := by decide +kernel
theorem dX12_cast_92 : decode cX12_cast 92 = .ok (.aload_n 0, 1) := by decide +kernel
theorem dX12_cast_93 : decode cX12_cast 93 = .ok (.dup, 1) := by decide +kernel
theorem dX12_cast_94 : decode cX12_cast 94 = .ok (.getfield 450, 3) := by decide +kernel
theorem dX12_cast_97 : decode cX12_cast 97 = .ok (.iconst 1, 1) := by decide +kernel
theorem dX12_cast_98 : decode cX12_cast 98 = .ok (.iadd, 1) := by decide +kernel
theorem dX12_cast_99 : decode cX12_cast 99 = .ok (.putfield 450, 3) := by decide +kernel
theorem dX12_cast_102 : decode cX12_cast 102 = .ok (.aload_n 0, 1) := by decide +kernel
theorem dX12_cast_103 : decode cX12_cast 103 = .ok (.getfield 450, 3) := by decide +kernel
theorem dX12_cast_106 : decode cX12_cast 106 = .ok (.iconst 1, 1) := by decide +kernel
theorem dX12_cast_107 : decode cX12_cast 107 = .ok (.isub, 1) := by decide +kernel
theorem dX12_cast_108 : decode cX12_cast 108 = .ok (.ireturn, 1) := by decide +kernel
theorem dX12_role_0 : decode cX12_role 0 = .ok (.iload_n 1, 1) := by decide +kernel
theorem dX12_role_1 : decode cX12_role 1 = .ok (.i2l, 1) := by decide +kernel
theorem dX12_role_2 : decode cX12_role 2 = .ok (.lconst 0, 1) := by decide +kernel
theorem dX12_role_3 : decode cX12_role 3 = .ok (.aload_n 0, 1) := by decide +kernel
theorem dX12_role_4 : decode cX12_role 4 = .ok (.getfield 450, 3) := by decide +kernel
theorem dX12_role_7 : decode cX12_role 7 = .ok (.iconst 1, 1) := by decide +kernel
theorem dX12_role_8 : decode cX12_role 8 = .ok (.isub, 1) := by decide +kernel
theorem dX12_role_9 : decode cX12_role 9 = .ok (.i2l, 1) := by decide +kernel
theorem dX12_role_10 : decode cX12_role 10 = .ok (.invokestatic 166, 3) := by decide +kernel
theorem dX12_role_13 : decode cX12_role 13 = .ok (.ifCond .eq 17, 3) := by decide +kernel
theorem dX12_role_30 : decode cX12_role 30 = .ok (.iconst (-1), 1) := by decide +kernel
theorem dX12_role_31 : decode cX12_role 31 = .ok (.ireturn, 1) := by decide +kernel
theorem dX12_who_0 : decode cX12_who 0 = .ok (.iload_n 1, 1) := by decide +kernel
theorem dX12_who_1 : decode cX12_who 1 = .ok (.i2l, 1) := by decide +kernel
theorem dX12_who_2 : decode cX12_who 2 = .ok (.lconst 0, 1) := by decide +kernel
theorem dX12_who_3 : decode cX12_who 3 = .ok (.aload_n 0, 1) := by decide +kernel
theorem dX12_who_4 : decode cX12_who 4 = .ok (.getfield 450, 3) := by decide +kernel
theorem dX12_who_7 : decode cX12_who 7 = .ok (.iconst 1, 1) := by decide +kernel
theorem dX12_who_8 : decode cX12_who 8 = .ok (.isub, 1) := by decide +kernel
theorem dX12_who_9 : decode cX12_who 9 = .ok (.i2l, 1) := by decide +kernel
theorem dX12_who_10 : decode cX12_who 10 = .ok (.invokestatic 166, 3) := by decide +kernel
theorem dX12_who_13 : decode cX12_who 13 = .ok (.ifCond .ne 5, 3) := by decide +kernel
theorem dX12_who_16 : decode cX12_who 16 = .ok (.iconst (-1), 1) := by decide +kernel
theorem dX12_who_17 : decode cX12_who 17 = .ok (.ireturn, 1) := by decide +kernel
theorem dX12_count_0 : decode cX12_count 0 = .ok (.iload_n 1, 1) := by decide +kernel
theorem dX12_count_1 : decode cX12_count 1 = .ok (.tableswitch 87 0 7 #[47, 52, 57, 62, 67, 72, 77, 82], 47) := by decide +kernel
theorem dX12_count_48 : decode cX12_count 48 = .ok (.aload_n 0, 1) := by decide +kernel
theorem dX12_count_49 : decode cX12_count 49 = .ok (.getfield 151, 3) := by decide +kernel
theorem dX12_count_52 : decode cX12_count 52 = .ok (.ireturn, 1) := by decide +kernel
theorem dX12_count_53 : decode cX12_count 53 = .ok (.aload_n 0, 1) := by decide +kernel
theorem dX12_count_54 : decode cX12_count 54 = .ok (.getfield 177, 3) := by decide +kernel
theorem dX12_count_57 : decode cX12_count 57 = .ok (.ireturn, 1) := by decide +kernel
theorem dX12_count_58 : decode cX12_count 58 = .ok (.aload_n 0, 1) := by decide +kernel
theorem dX12_count_59 : decode cX12_count 59 = .ok (.invokevirtual 248, 3) := by decide +kernel
theorem dX12_count_62 : decode cX12_count 62 = .ok (.ireturn, 1) := by decide +kernel
theorem dX12_count_63 : decode cX12_count 63 = .ok (.aload_n 0, 1) := by decide +kernel
theorem dX12_count_64 : decode cX12_count 64 = .ok (.getfield 202, 3) := by decide +kernel
theorem dX12_count_67 : decode cX12_count 67 = .ok (.ireturn, 1) := by decide +kernel
theorem dX12_count_68 : decode cX12_count 68 = .ok (.aload_n 0, 1) := by decide +kernel
theorem dX12_count_69 : decode cX12_count 69 = .ok (.getfield 450, 3) := by decide +kernel
theorem dX12_count_72 : decode cX12_count 72 = .ok (.ireturn, 1) := by decide +kernel
theorem dX12_count_73 : decode cX12_count 73 = .ok (.aload_n 0, 1) := by decide +kernel
theorem dX12_count_74 : decode cX12_count 74 = .ok (.getfield 291, 3) := by decide +kernel
theorem dX12_count_77 : decode cX12_count 77 = .ok (.ireturn, 1) := by decide +kernel
theorem dX12_count_78 : decode cX12_count 78 = .ok (.aload_n 0, 1) := by decide +kernel
theorem dX12_count_79 : decode cX12_count 79 = .ok (.getfield 155, 3) := by decide +kernel
