theorem dX11_init_103 : decode cX11_init 103 = .ok (.new 57, 3) := by decide +kernel
theorem dX11_init_106 : decode cX11_init 106 = .ok (.dup, 1) := by decide +kernel
theorem dX11_init_107 : decode cX11_init 107 = .ok (.invokespecial 59, 3) := by decide +kernel
theorem dX11_init_110 : decode cX11_init 110 = .ok (.putfield 60, 3) := by decide +kernel
theorem dX11_init_113 : decode cX11_init 113 = .ok (.aload_n 0, 1) := by decide +kernel
theorem dX11_init_114 : decode cX11_init 114 = .ok (.aconst_null, 1) := by decide +kernel
theorem dX11_init_115 : decode cX11_init 115 = .ok (.putfield 64, 3) := by decide +kernel
theorem dX11_init_118 : decode cX11_init 118 = .ok (.aload_n 0, 1) := by decide +kernel
theorem dX11_init_119 : decode cX11_init 119 = .ok (.bipush 7, 2) := by decide +kernel
theorem dX11_init_121 : decode cX11_init 121 = .ok (.newarray .int, 2) := by decide +kernel
theorem dX11_init_123 : decode cX11_init 123 = .ok (.putfield 68, 3) := by decide +kernel
theorem dX11_init_126 : decode cX11_init 126 = .ok (.aload_n 0, 1) := by decide +kernel
theorem dX11_init_127 : decode cX11_init 127 = .ok (.iconst 0, 1) := by decide +kernel
theorem dX11_init_128 : decode cX11_init 128 = .ok (.putfield 72, 3) := by decide +kernel
theorem dX11_init_131 : decode cX11_init 131 = .ok (.aload_n 0, 1) := by decide +kernel
theorem dX11_init_132 : decode cX11_init 132 = .ok (.lconst 0, 1) := by decide +kernel
theorem dX11_init_133 : decode cX11_init 133 = .ok (.putfield 76, 3) := by decide +kernel
theorem dX11_init_136 : decode cX11_init 136 = .ok (.return_, 1) := by decide +kernel
theorem dX11_kind_0 : decode cX11_kind 0 = .ok (.aload_n 0, 1) := by decide +kernel
theorem dX11_kind_1 : decode cX11_kind 1 = .ok (.getfield 10, 3) := by decide +kernel
theorem dX11_kind_4 : decode cX11_kind 4 = .ok (.iload_n 1, 1) := by decide +kernel
theorem dX11_kind_5 : decode cX11_kind 5 = .ok (.invokevirtual 80, 3) := by decide +kernel
theorem dX11_kind_8 : decode cX11_kind 8 = .ok (.ifCond .ne 5, 3) := by decide +kernel
theorem dX11_kind_11 : decode cX11_kind 11 = .ok (.iconst (-1), 1) := by decide +kernel
theorem dX11_kind_12 : decode cX11_kind 12 = .ok (.ireturn, 1) := by decide +kernel
theorem dX11_kind_13 : decode cX11_kind 13 = .ok (.aload_n 0, 1) := by decide +kernel
theorem dX11_kind_14 : decode cX11_kind 14 = .ok (.getfield 10, 3) := by decide +kernel
theorem dX11_kind_17 : decode cX11_kind 17 = .ok (.getfield 84, 3) := by decide +kernel
theorem dX11_kind_20 : decode cX11_kind 20 = .ok (.bipush 24, 2) := by decide +kernel
theorem dX11_kind_22 : decode cX11_kind 22 = .ok (.if_icmp .lt 6, 3) := by decide +kernel
theorem dX11_kind_28 : decode cX11_kind 28 = .ok (.aload_n 0, 1) := by decide +kernel
theorem dX11_kind_29 : decode cX11_kind 29 = .ok (.getfield 10, 3) := by decide +kernel
theorem dX11_kind_32 : decode cX11_kind 32 = .ok (.iload_n 1, 1) := by decide +kernel
theorem dX11_kind_33 : decode cX11_kind 33 = .ok (.invokevirtual 87, 3) := by decide +kernel
theorem dX11_kind_36 : decode cX11_kind 36 = .ok (.ireturn, 1) := by decide +kernel
theorem dX11_standard_0 : decode cX11_standard 0 = .ok (.aload_n 0, 1) := by decide +kernel
theorem dX11_standard_1 : decode cX11_standard 1 = .ok (.getfield 10, 3) := by decide +kernel
theorem dX11_standard_4 : decode cX11_standard 4 = .ok (.iload_n 1, 1) := by decide +kernel
theorem dX11_standard_5 : decode cX11_standard 5 = .ok (.invokevirtual 80, 3) := by decide +kernel
theorem dX11_standard_8 : decode cX11_standard 8 = .ok (.ifCond .eq 27, 3) := by decide +kernel
theorem dX11_standard_11 : decode cX11_standard 11 = .ok (.iload_n 2, 1) := by decide +kernel
theorem dX11_standard_12 : decode cX11_standard 12 = .ok (.bipush 6, 2) := by decide +kernel
theorem dX11_standard_14 : decode cX11_standard 14 = .ok (.invokestatic 91, 3) := by decide +kernel
theorem dX11_standard_17 : decode cX11_standard 17 = .ok (.ifCond .eq 18, 3) := by decide +kernel
theorem dX11_standard_20 : decode cX11_standard 20 = .ok (.iload_n 3, 1) := by decide +kernel
theorem dX11_standard_21 : decode cX11_standard 21 = .ok (.ifCond .eq 16, 3) := by decide +kernel
theorem dX11_standard_24 : decode cX11_standard 24 = .ok (.iload_n 3, 1) := by decide +kernel
theorem dX11_standard_25 : decode cX11_standard 25 = .ok (.iconst 1, 1) := by decide +kernel
theorem dX11_standard_26 : decode cX11_standard 26 = .ok (.if_icmp .eq 11, 3) := by decide +kernel
theorem dX11_standard_29 : decode cX11_standard 29 = .ok (.iload_n 3, 1) := by decide +kernel
theorem dX11_standard_30 : decode cX11_standard 30 = .ok (.bipush (-9), 2) := by decide +kernel
theorem dX11_standard_32 : decode cX11_standard 32 = .ok (.if_icmp .eq 5, 3) := by decide +kernel
theorem dX11_standard_35 : decode cX11_standard 35 = .ok (.iconst (-1), 1) := by decide +kernel
theorem dX11_standard_36 : decode cX11_standard 36 = .ok (.ireturn, 1) := by decide +kernel
theorem dX11_standard_37 : decode cX11_standard 37 = .ok (.aload_n 0, 1) := by decide +kernel
theorem dX11_standard_38 : decode cX11_standard 38 = .ok (.getfield 46, 3) := by decide +kernel
theorem dX11_standard_41 : decode cX11_standard 41 = .ok (.invokevirtual 95, 3) := by decide +kernel
theorem dX11_standard_44 : decode cX11_standard 44 = .ok (.aload_n 0, 1) := by decide +kernel
theorem dX11_standard_45 : decode cX11_standard 45 = .ok (.getfield 10, 3) := by decide +kernel
theorem dX11_standard_48 : decode cX11_standard 48 = .ok (.iload_n 1, 1) := by decide +kernel
theorem dX11_standard_49 : decode cX11_standard 49 = .ok (.iload_n 2, 1) := by decide +kernel
theorem dX11_standard_50 : decode cX11_standard 50 = .ok (.iload_n 3, 1) := by decide +kernel
theorem dX11_standard_51 : decode cX11_standard 51 = .ok (.invokevirtual 98, 3) := by decide +kernel
theorem dX11_standard_54 : decode cX11_standard 54 = .ok (.ireturn, 1) := by decide +kernel
theorem dX11_make_0 : decode cX11_make 0 = .ok (.aload_n 0, 1) := by decide +kernel
theorem dX11_make_1 : decode cX11_make 1 = .ok (.getfield 10, 3) := by decide +kernel
theorem dX11_make_4 : decode cX11_make 4 = .ok (.iload_n 1, 1) := by decide +kernel
theorem dX11_make_5 : decode cX11_make 5 = .ok (.invokevirtual 80, 3) := by decide +kernel
theorem dX11_make_8 : decode cX11_make 8 = .ok (.ifCond .eq 13, 3) := by decide +kernel
theorem dX11_make_11 : decode cX11_make 11 = .ok (.iload_n 2, 1) := by decide +kernel
theorem dX11_make_12 : decode cX11_make 12 = .ok (.ifCond .lt 9, 3) := by decide +kernel
theorem dX11_make_15 : decode cX11_make 15 = .ok (.iload_n 2, 1) := by decide +kernel
theorem dX11_make_16 : decode cX11_make 16 = .ok (.bipush 99, 2) := by decide +kernel
theorem dX11_make_18 : decode cX11_make 18 = .ok (.if_icmp .le 5, 3) := by decide +kernel
theorem dX11_make_21 : decode cX11_make 21 = .ok (.iconst (-1), 1) := by decide +kernel
theorem dX11_make_22 : decode cX11_make 22 = .ok (.ireturn, 1) := by decide +kernel
theorem dX11_make_23 : decode cX11_make 23 = .ok (.aload_n 0, 1) := by decide +kernel
theorem dX11_make_24 : decode cX11_make 24 = .ok (.getfield 10, 3) := by decide +kernel
theorem dX11_make_27 : decode cX11_make 27 = .ok (.getfield 102, 3) := by decide +kernel
theorem dX11_make_30 : decode cX11_make 30 = .ok (.bipush 30, 2) := by decide +kernel
theorem dX11_make_32 : decode cX11_make 32 = .ok (.if_icmp .lt 6, 3) := by decide +kernel
theorem dX11_make_38 : decode cX11_make 38 = .ok (.aload_n 0, 1) := by decide +kernel
theorem dX11_make_39 : decode cX11_make 39 = .ok (.getfield 46, 3) := by decide +kernel
theorem dX11_make_42 : decode cX11_make 42 = .ok (.invokevirtual 95, 3) := by decide +kernel
theorem dX11_make_45 : decode cX11_make 45 = .ok (.aload_n 0, 1) := by decide +kernel
theorem dX11_make_46 : decode cX11_make 46 = .ok (.getfield 10, 3) := by decide +kernel
theorem dX11_make_49 : decode cX11_make 49 = .ok (.iload_n 1, 1) := by decide +kernel
theorem dX11_make_50 : decode cX11_make 50 = .ok (.iload_n 2, 1) := by decide +kernel
theorem dX11_make_51 : decode cX11_make 51 = .ok (.invokevirtual 105, 3) := by decide +kernel
theorem dX11_make_54 : decode cX11_make 54 = .ok (.ireturn, 1) := by decide +kernel
theorem dX11_is_0 : decode cX11_is 0 = .ok (.aload_n 0, 1) := by decide +kernel
theorem dX11_is_1 : decode cX11_is 1 = .ok (.getfield 10, 3) := by decide +kernel
theorem dX11_is_4 : decode cX11_is 4 = .ok (.iload_n 1, 1) := by decide +kernel
theorem dX11_is_5 : decode cX11_is 5 = .ok (.invokevirtual 109, 3) := by decide +kernel
theorem dX11_is_8 : decode cX11_is 8 = .ok (.ifCond .eq 14, 3) := by decide +kernel
theorem dX11_is_22 : decode cX11_is 22 = .ok (.iconst (-1), 1) := by decide +kernel
theorem dX11_is_23 : decode cX11_is 23 = .ok (.ireturn, 1) := by decide +kernel
theorem dX11_bulk_0 : decode cX11_bulk 0 = .ok (.aload_n 0, 1) := by decide +kernel
theorem dX11_bulk_1 : decode cX11_bulk 1 = .ok (.getfield 10, 3) := by decide +kernel
theorem dX11_bulk_4 : decode cX11_bulk 4 = .ok (.iload_n 1, 1) := by decide +kernel
theorem dX11_bulk_5 : decode cX11_bulk 5 = .ok (.invokevirtual 109, 3) := by decide +kernel
theorem dX11_bulk_8 : decode cX11_bulk 8 = .ok (.ifCond .ne 5, 3) := by decide +kernel
theorem dX11_bulk_11 : decode cX11_bulk 11 = .ok (.iconst (-1), 1) := by decide +kernel
theorem dX11_bulk_12 : decode cX11_bulk 12 = .ok (.ireturn, 1) := by decide +kernel
theorem dX11_asked_0 : decode cX11_asked 0 = .ok (.aload_n 0, 1) := by decide +kernel
theorem dX11_asked_1 : decode cX11_asked 1 = .ok (.getfield 76, 3) := by decide +kernel
theorem dX11_asked_4 : decode cX11_asked 4 = .ok (.lreturn, 1) := by decide +kernel
theorem dX11_trace_0 : decode cX11_trace 0 = .ok (.iload_n 1, 1) := by decide +kernel
theorem dX11_trace_1 : decode cX11_trace 1 = .ok (.aload_n 0, 1) := by decide +kernel
theorem dX11_trace_2 : decode cX11_trace 2 = .ok (.getfield 37, 3) := by decide +kernel
theorem dX11_trace_5 : decode cX11_trace 5 = .ok (.getfield 139, 3) := by decide +kernel
theorem dX11_trace_8 : decode cX11_trace 8 = .ok (.invokestatic 91, 3) := by decide +kernel
theorem dX11_trace_11 : decode cX11_trace 11 = .ok (.ifCond .eq 15, 3) := by decide +kernel
theorem dX11_trace_26 : decode cX11_trace 26 = .ok (.bipush (-9), 2) := by decide +kernel
theorem dX11_trace_28 : decode cX11_trace 28 = .ok (.ireturn, 1) := by decide +kernel
theorem dX11_share_0 : decode cX11_share 0 = .ok (.aload_n 0, 1) := by decide +kernel
theorem dX11_share_1 : decode cX11_share 1 = .ok (.getfield 10, 3) := by decide +kernel
theorem dX11_share_4 : decode cX11_share 4 = .ok (.iload_n 1, 1) := by decide +kernel
theorem dX11_share_5 : decode cX11_share 5 = .ok (.invokevirtual 109, 3) := by decide +kernel
theorem dX11_share_8 : decode cX11_share 8 = .ok (.ifCond .eq 14, 3) := by decide +kernel
theorem dX11_share_22 : decode cX11_share 22 = .ok (.iconst (-1), 1) := by decide +kernel
theorem dX11_share_23 : decode cX11_share 23 = .ok (.ireturn, 1) := by decide +kernel
theorem dX11_say_0 : decode cX11_say 0 = .ok (.aload_n 0, 1) := by decide +kernel
theorem dX11_say_1 : decode cX11_say 1 = .ok (.getfield 21, 3) := by decide +kernel
theorem dX11_say_4 : decode cX11_say 4 = .ok (.invokevirtual 153, 3) := by decide +kernel
theorem dX11_say_7 : decode cX11_say 7 = .ok (.aload_n 0, 1) := by decide +kernel
theorem dX11_say_8 : decode cX11_say 8 = .ok (.getfield 21, 3) := by decide +kernel
theorem dX11_say_11 : decode cX11_say 11 = .ok (.iload_n 1, 1) := by decide +kernel
theorem dX11_say_12 : decode cX11_say 12 = .ok (.iload_n 2, 1) := by decide +kernel
theorem dX11_say_13 : decode cX11_say 13 = .ok (.iload_n 3, 1) := by decide +kernel
theorem dX11_say_14 : decode cX11_say 14 = .ok (.iload 4, 2) := by decide +kernel
theorem dX11_say_16 : decode cX11_say 16 = .ok (.invokevirtual 156, 3) := by decide +kernel
theorem dX11_say_19 : decode cX11_say 19 = .ok (.ifCond .ne 5, 3) := by decide +kernel
theorem dX11_say_22 : decode cX11_say 22 = .ok (.iconst (-1), 1) := by decide +kernel
theorem dX11_say_23 : decode cX11_say 23 = .ok (.ireturn, 1) := by decide +kernel
theorem dX11_unsay_0 : decode cX11_unsay 0 = .ok (.iload_n 1, 1) := by decide +kernel
theorem dX11_unsay_1 : decode cX11_unsay 1 = .ok (.aload_n 0, 1) := by decide +kernel
theorem dX11_unsay_2 : decode cX11_unsay 2 = .ok (.getfield 21, 3) := by decide +kernel
theorem dX11_unsay_5 : decode cX11_unsay 5 = .ok (.getfield 168, 3) := by decide +kernel
theorem dX11_unsay_8 : decode cX11_unsay 8 = .ok (.invokestatic 91, 3) := by decide +kernel
theorem dX11_unsay_11 : decode cX11_unsay 11 = .ok (.ifCond .eq 15, 3) := by decide +kernel
theorem dX11_unsay_26 : decode cX11_unsay 26 = .ok (.iconst (-1), 1) := by decide +kernel
theorem dX11_unsay_27 : decode cX11_unsay 27 = .ok (.ireturn, 1) := by decide +kernel
theorem dX11_clash_0 : decode cX11_clash 0 = .ok (.iload_n 1, 1) := by decide +kernel
theorem dX11_clash_1 : decode cX11_clash 1 = .ok (.aload_n 0, 1) := by decide +kernel
theorem dX11_clash_2 : decode cX11_clash 2 = .ok (.getfield 21, 3) := by decide +kernel
theorem dX11_clash_5 : decode cX11_clash 5 = .ok (.getfield 194, 3) := by decide +kernel
theorem dX11_clash_8 : decode cX11_clash 8 = .ok (.invokestatic 91, 3) := by decide +kernel
theorem dX11_clash_11 : decode cX11_clash 11 = .ok (.ifCond .eq 15, 3) := by decide +kernel
theorem dX11_clash_26 : decode cX11_clash 26 = .ok (.bipush (-9), 2) := by decide +kernel
theorem dX11_clash_28 : decode cX11_clash 28 = .ok (.ireturn, 1) := by decide +kernel
theorem dX11_sentence_0 : decode cX11_sentence 0 = .ok (.iload_n 1, 1) := by decide +kernel
theorem dX11_sentence_1 : decode cX11_sentence 1 = .ok (.aload_n 0, 1) := by decide +kernel
theorem dX11_sentence_2 : decode cX11_sentence 2 = .ok (.getfield 21, 3) := by decide +kernel
theorem dX11_sentence_5 : decode cX11_sentence 5 = .ok (.getfield 168, 3) := by decide +kernel
theorem dX11_sentence_8 : decode cX11_sentence 8 = .ok (.invokestatic 91, 3) := by decide +kernel
theorem dX11_sentence_11 : decode cX11_sentence 11 = .ok (.ifCond .eq 11, 3) := by decide +kernel
theorem dX11_sentence_22 : decode cX11_sentence 22 = .ok (.iconst (-1), 1) := by decide +kernel
theorem dX11_sentence_23 : decode cX11_sentence 23 = .ok (.ireturn, 1) := by decide +kernel
theorem dX11_place_0 : decode cX11_place 0 = .ok (.aload_n 0, 1) := by decide +kernel
theorem dX11_place_1 : decode cX11_place 1 = .ok (.getfield 10, 3) := by decide +kernel
theorem dX11_place_4 : decode cX11_place 4 = .ok (.iload_n 1, 1) := by decide +kernel
theorem dX11_place_5 : decode cX11_place 5 = .ok (.invokevirtual 109, 3) := by decide +kernel
theorem dX11_place_8 : decode cX11_place 8 = .ok (.ifCond .eq 11, 3) := by decide +kernel
theorem dX11_place_19 : decode cX11_place 19 = .ok (.iconst (-1), 1) := by decide +kernel
theorem dX11_place_20 : decode cX11_place 20 = .ok (.ireturn, 1) := by decide +kernel
theorem dX11_exit_0 : decode cX11_exit 0 = .ok (.aload_n 0, 1) := by decide +kernel
theorem dX11_exit_1 : decode cX11_exit 1 = .ok (.getfield 10, 3) := by decide +kernel
theorem dX11_exit_4 : decode cX11_exit 4 = .ok (.iload_n 1, 1) := by decide +kernel
theorem dX11_exit_5 : decode cX11_exit 5 = .ok (.invokevirtual 109, 3) := by decide +kernel
theorem dX11_exit_8 : decode cX11_exit 8 = .ok (.ifCond .eq 20, 3) := by decide +kernel
theorem dX11_exit_28 : decode cX11_exit 28 = .ok (.iconst (-1), 1) := by decide +kernel
theorem dX11_exit_29 : decode cX11_exit 29 = .ok (.ireturn, 1) := by decide +kernel
theorem dX11_flag_0 : decode cX11_flag 0 = .ok (.aload_n 0, 1) := by decide +kernel
theorem dX11_flag_1 : decode cX11_flag 1 = .ok (.getfield 10, 3) := by decide +kernel
theorem dX11_flag_4 : decode cX11_flag 4 = .ok (.iload_n 1, 1) := by decide +kernel
theorem dX11_flag_5 : decode cX11_flag 5 = .ok (.invokevirtual 109, 3) := by decide +kernel
theorem dX11_flag_8 : decode cX11_flag 8 = .ok (.ifCond .eq 12, 3) := by decide +kernel
theorem dX11_flag_20 : decode cX11_flag 20 = .ok (.iconst (-1), 1) := by decide +kernel
theorem dX11_flag_21 : decode cX11_flag 21 = .ok (.ireturn, 1) := by decide +kernel
theorem dX11_key_0 : decode cX11_key 0 = .ok (.aload_n 0, 1) := by decide +kernel
theorem dX11_key_1 : decode cX11_key 1 = .ok (.getfield 10, 3) := by decide +kernel
theorem dX11_key_4 : decode cX11_key 4 = .ok (.iload_n 1, 1) := by decide +kernel
theorem dX11_key_5 : decode cX11_key 5 = .ok (.invokevirtual 109, 3) := by decide +kernel
theorem dX11_key_8 : decode cX11_key 8 = .ok (.ifCond .ne 5, 3) := by decide +kernel
theorem dX11_key_11 : decode cX11_key 11 = .ok (.iconst (-1), 1) := by decide +kernel
theorem dX11_key_12 : decode cX11_key 12 = .ok (.ireturn, 1) := by decide +kernel
theorem dX11_way_0 : decode cX11_way 0 = .ok (.aload_n 0, 1) := by decide +kernel
theorem dX11_way_1 : decode cX11_way 1 = .ok (.iload_n 1, 1) := by decide +kernel
theorem dX11_way_2 : decode cX11_way 2 = .ok (.iload_n 2, 1) := by decide +kernel
theorem dX11_way_3 : decode cX11_way 3 = .ok (.invokevirtual 232, 3) := by decide +kernel
theorem dX11_way_6 : decode cX11_way 6 = .ok (.istore 4, 2) := by decide +kernel
theorem dX11_way_8 : decode cX11_way 8 = .ok (.iload 4, 2) := by decide +kernel
theorem dX11_way_10 : decode cX11_way 10 = .ok (.ifCond .eq 6, 3) := by decide +kernel
theorem dX11_way_13 : decode cX11_way 13 = .ok (.iload 4, 2) := by decide +kernel
theorem dX11_way_15 : decode cX11_way 15 = .ok (.ireturn, 1) := by decide +kernel
theorem dX11_toward_0 : decode cX11_toward 0 = .ok (.aload_n 0, 1) := by decide +kernel
theorem dX11_toward_1 : decode cX11_toward 1 = .ok (.iload_n 1, 1) := by decide +kernel
theorem dX11_toward_2 : decode cX11_toward 2 = .ok (.iload_n 2, 1) := by decide +kernel
theorem dX11_toward_3 : decode cX11_toward 3 = .ok (.invokevirtual 232, 3) := by decide +kernel
theorem dX11_toward_6 : decode cX11_toward 6 = .ok (.istore 4, 2) := by decide +kernel
theorem dX11_toward_8 : decode cX11_toward 8 = .ok (.iload 4, 2) := by decide +kernel
theorem dX11_toward_10 : decode cX11_toward 10 = .ok (.ifCond .eq 6, 3) := by decide +kernel
theorem dX11_toward_13 : decode cX11_toward 13 = .ok (.iload 4, 2) := by decide +kernel
theorem dX11_toward_15 : decode cX11_toward 15 = .ok (.ireturn, 1) := by decide +kernel
theorem dX11_begin_0 : decode cX11_begin 0 = .ok (.aload_n 0, 1) := by decide +kernel
theorem dX11_begin_1 : decode cX11_begin 1 = .ok (.getfield 10, 3) := by decide +kernel
theorem dX11_begin_4 : decode cX11_begin 4 = .ok (.iload_n 1, 1) := by decide +kernel
theorem dX11_begin_5 : decode cX11_begin 5 = .ok (.invokevirtual 109, 3) := by decide +kernel
theorem dX11_begin_8 : decode cX11_begin 8 = .ok (.ifCond .ne 5, 3) := by decide +kernel
theorem dX11_begin_11 : decode cX11_begin 11 = .ok (.iconst (-1), 1) := by decide +kernel
theorem dX11_begin_12 : decode cX11_begin 12 = .ok (.ireturn, 1) := by decide +kernel
theorem dX11_act_0 : decode cX11_act 0 = .ok (.aload_n 0, 1) := by decide +kernel
theorem dX11_act_1 : decode cX11_act 1 = .ok (.getfield 46, 3) := by decide +kernel
theorem dX11_act_4 : decode cX11_act 4 = .ok (.iload_n 1, 1) := by decide +kernel
theorem dX11_act_5 : decode cX11_act 5 = .ok (.iload_n 2, 1) := by decide +kernel
theorem dX11_act_6 : decode cX11_act 6 = .ok (.iload_n 3, 1) := by decide +kernel
theorem dX11_act_7 : decode cX11_act 7 = .ok (.invokevirtual 251, 3) := by decide +kernel
theorem dX11_act_10 : decode cX11_act 10 = .ok (.ifCond .ne 5, 3) := by decide +kernel
theorem dX11_act_13 : decode cX11_act 13 = .ok (.iconst (-1), 1) := by decide +kernel
theorem dX11_act_14 : decode cX11_act 14 = .ok (.ireturn, 1) := by decide +kernel
theorem dX11_act_15 : decode cX11_act 15 = .ok (.aload_n 0, 1) := by decide +kernel
theorem dX11_act_16 : decode cX11_act 16 = .ok (.getfield 46, 3) := by decide +kernel
theorem dX11_act_19 : decode cX11_act 19 = .ok (.getfield 254, 3) := by decide +kernel
theorem dX11_act_22 : decode cX11_act 22 = .ok (.bipush 100, 2) := by decide +kernel
theorem dX11_act_24 : decode cX11_act 24 = .ok (.if_icmp .lt 6, 3) := by decide +kernel
theorem dX11_act_30 : decode cX11_act 30 = .ok (.aload_n 0, 1) := by decide +kernel
theorem dX11_act_31 : decode cX11_act 31 = .ok (.getfield 46, 3) := by decide +kernel
theorem dX11_act_34 : decode cX11_act 34 = .ok (.getfield 257, 3) := by decide +kernel
theorem dX11_act_37 : decode cX11_act 37 = .ok (.ifCond .ne 6, 3) := by decide +kernel
theorem dX11_act_40 : decode cX11_act 40 = .ok (.bipush (-5), 2) := by decide +kernel
theorem dX11_act_42 : decode cX11_act 42 = .ok (.ireturn, 1) := by decide +kernel
theorem dX11_back_0 : decode cX11_back 0 = .ok (.aload_n 0, 1) := by decide +kernel
theorem dX11_back_1 : decode cX11_back 1 = .ok (.getfield 46, 3) := by decide +kernel
theorem dX11_back_4 : decode cX11_back 4 = .ok (.getfield 257, 3) := by decide +kernel
theorem dX11_back_7 : decode cX11_back 7 = .ok (.ifCond .eq 13, 3) := by decide +kernel
theorem dX11_back_20 : decode cX11_back 20 = .ok (.bipush (-5), 2) := by decide +kernel
theorem dX11_back_22 : decode cX11_back 22 = .ok (.ireturn, 1) := by decide +kernel
theorem dX11_now_0 : decode cX11_now 0 = .ok (.aload_n 0, 1) := by decide +kernel
theorem dX11_now_1 : decode cX11_now 1 = .ok (.getfield 10, 3) := by decide +kernel
theorem dX11_now_4 : decode cX11_now 4 = .ok (.iload_n 1, 1) := by decide +kernel
theorem dX11_now_5 : decode cX11_now 5 = .ok (.invokevirtual 109, 3) := by decide +kernel
theorem dX11_now_8 : decode cX11_now 8 = .ok (.ifCond .eq 12, 3) := by decide +kernel
theorem dX11_now_20 : decode cX11_now 20 = .ok (.iconst (-1), 1) := by decide +kernel
theorem dX11_now_21 : decode cX11_now 21 = .ok (.ireturn, 1) := by decide +kernel
theorem dX11_turn_0 : decode cX11_turn 0 = .ok (.iload_n 2, 1) := by decide +kernel
theorem dX11_turn_1 : decode cX11_turn 1 = .ok (.iconst 3, 1) := by decide +kernel
theorem dX11_turn_2 : decode cX11_turn 2 = .ok (.invokestatic 91, 3) := by decide +kernel
theorem dX11_turn_5 : decode cX11_turn 5 = .ok (.ifCond .eq 7, 3) := by decide +kernel
theorem dX11_turn_8 : decode cX11_turn 8 = .ok (.iload_n 1, 1) := by decide +kernel
theorem dX11_turn_9 : decode cX11_turn 9 = .ok (.ifCond .ge 5, 3) := by decide +kernel
theorem dX11_turn_12 : decode cX11_turn 12 = .ok (.iconst (-1), 1) := by decide +kernel
theorem dX11_turn_13 : decode cX11_turn 13 = .ok (.ireturn, 1) := by decide +kernel
theorem dX11_turn_14 : decode cX11_turn 14 = .ok (.aload_n 0, 1) := by decide +kernel
theorem dX11_turn_15 : decode cX11_turn 15 = .ok (.getfield 46, 3) := by decide +kernel
theorem dX11_turn_18 : decode cX11_turn 18 = .ok (.getfield 257, 3) := by decide +kernel
theorem dX11_turn_21 : decode cX11_turn 21 = .ok (.ifCond .ne 6, 3) := by decide +kernel
theorem dX11_turn_24 : decode cX11_turn 24 = .ok (.bipush (-5), 2) := by decide +kernel
theorem dX11_turn_26 : decode cX11_turn 26 = .ok (.ireturn, 1) := by decide +kernel
theorem dX11_light_0 : decode cX11_light 0 = .ok (.aload_n 0, 1) := by decide +kernel
theorem dX11_light_1 : decode cX11_light 1 = .ok (.getfield 46, 3) := by decide +kernel
theorem dX11_light_4 : decode cX11_light 4 = .ok (.getfield 257, 3) := by decide +kernel
theorem dX11_light_7 : decode cX11_light 7 = .ok (.ifCond .ne 6, 3) := by decide +kernel
theorem dX11_light_10 : decode cX11_light 10 = .ok (.bipush (-5), 2) := by decide +kernel
theorem dX11_light_12 : decode cX11_light 12 = .ok (.ireturn, 1) := by decide +kernel
theorem dX11_seek_0 : decode cX11_seek 0 = .ok (.aload_n 0, 1) := by decide +kernel
theorem dX11_seek_1 : decode cX11_seek 1 = .ok (.getfield 10, 3) := by decide +kernel
theorem dX11_seek_4 : decode cX11_seek 4 = .ok (.iload_n 1, 1) := by decide +kernel
theorem dX11_seek_5 : decode cX11_seek 5 = .ok (.invokevirtual 109, 3) := by decide +kernel
theorem dX11_seek_8 : decode cX11_seek 8 = .ok (.ifCond .eq 25, 3) := by decide +kernel
theorem dX11_seek_33 : decode cX11_seek 33 = .ok (.iconst (-1), 1) := by decide +kernel
theorem dX11_seek_34 : decode cX11_seek 34 = .ok (.ireturn, 1) := by decide +kernel
theorem dX11_sought_0 : decode cX11_sought 0 = .ok (.iload_n 2, 1) := by decide +kernel
theorem dX11_sought_1 : decode cX11_sought 1 = .ok (.iconst 3, 1) := by decide +kernel
theorem dX11_sought_2 : decode cX11_sought 2 = .ok (.invokestatic 91, 3) := by decide +kernel
theorem dX11_sought_5 : decode cX11_sought 5 = .ok (.ifCond .ne 5, 3) := by decide +kernel
theorem dX11_sought_8 : decode cX11_sought 8 = .ok (.iconst (-1), 1) := by decide +kernel
theorem dX11_sought_9 : decode cX11_sought 9 = .ok (.ireturn, 1) := by decide +kernel
theorem dX11_sought_10 : decode cX11_sought 10 = .ok (.aload_n 0, 1) := by decide +kernel
theorem dX11_sought_11 : decode cX11_sought 11 = .ok (.getfield 64, 3) := by decide +kernel
theorem dX11_sought_14 : decode cX11_sought 14 = .ok (.ifnull 17, 3) := by decide +kernel
theorem dX11_sought_31 : decode cX11_sought 31 = .ok (.bipush (-9), 2) := by decide +kernel
theorem dX11_sought_33 : decode cX11_sought 33 = .ok (.ireturn, 1) := by decide +kernel
theorem dX11_line_0 : decode cX11_line 0 = .ok (.aload_n 0, 1) := by decide +kernel
theorem dX11_line_1 : decode cX11_line 1 = .ok (.getfield 10, 3) := by decide +kernel
theorem dX11_line_4 : decode cX11_line 4 = .ok (.iload_n 1, 1) := by decide +kernel
theorem dX11_line_5 : decode cX11_line 5 = .ok (.invokevirtual 109, 3) := by decide +kernel
theorem dX11_line_8 : decode cX11_line 8 = .ok (.ifCond .eq 17, 3) := by decide +kernel
theorem dX11_line_25 : decode cX11_line 25 = .ok (.iconst (-1), 1) := by decide +kernel
theorem dX11_line_26 : decode cX11_line 26 = .ok (.ireturn, 1) := by decide +kernel
theorem dX11_put_0 : decode cX11_put 0 = .ok (.aload_n 0, 1) := by decide +kernel
theorem dX11_put_1 : decode cX11_put 1 = .ok (.iload_n 1, 1) := by decide +kernel
theorem dX11_put_2 : decode cX11_put 2 = .ok (.iload_n 2, 1) := by decide +kernel
theorem dX11_put_3 : decode cX11_put 3 = .ok (.iload_n 3, 1) := by decide +kernel
theorem dX11_put_4 : decode cX11_put 4 = .ok (.invokevirtual 308, 3) := by decide +kernel
theorem dX11_put_7 : decode cX11_put 7 = .ok (.istore 6, 2) := by decide +kernel
theorem dX11_put_9 : decode cX11_put 9 = .ok (.iload 6, 2) := by decide +kernel
theorem dX11_put_11 : decode cX11_put 11 = .ok (.ifCond .eq 6, 3) := by decide +kernel
theorem dX11_put_14 : decode cX11_put 14 = .ok (.iload 6, 2) := by decide +kernel
theorem dX11_put_16 : decode cX11_put 16 = .ok (.ireturn, 1) := by decide +kernel
theorem dX11_item_0 : decode cX11_item 0 = .ok (.aload_n 0, 1) := by decide +kernel
theorem dX11_item_1 : decode cX11_item 1 = .ok (.iload_n 1, 1) := by decide +kernel
theorem dX11_item_2 : decode cX11_item 2 = .ok (.iload_n 2, 1) := by decide +kernel
theorem dX11_item_3 : decode cX11_item 3 = .ok (.iload_n 3, 1) := by decide +kernel
theorem dX11_item_4 : decode cX11_item 4 = .ok (.invokevirtual 308, 3) := by decide +kernel
theorem dX11_item_7 : decode cX11_item 7 = .ok (.istore 4, 2) := by decide +kernel
theorem dX11_item_9 : decode cX11_item 9 = .ok (.iload 4, 2) := by decide +kernel
theorem dX11_item_11 : decode cX11_item 11 = .ok (.ifCond .eq 6, 3) := by decide +kernel
theorem dX11_item_14 : decode cX11_item 14 = .ok (.iload 4, 2) := by decide +kernel
theorem dX11_item_16 : decode cX11_item 16 = .ok (.ireturn, 1) := by decide +kernel
theorem dX11_copy_0 : decode cX11_copy 0 = .ok (.aload_n 0, 1) := by decide +kernel
theorem dX11_copy_1 : decode cX11_copy 1 = .ok (.getfield 10, 3) := by decide +kernel
theorem dX11_copy_4 : decode cX11_copy 4 = .ok (.iload_n 1, 1) := by decide +kernel
theorem dX11_copy_5 : decode cX11_copy 5 = .ok (.invokevirtual 109, 3) := by decide +kernel
theorem dX11_copy_8 : decode cX11_copy 8 = .ok (.ifCond .eq 23, 3) := by decide +kernel
theorem dX11_copy_31 : decode cX11_copy 31 = .ok (.iconst (-1), 1) := by decide +kernel
theorem dX11_copy_32 : decode cX11_copy 32 = .ok (.ireturn, 1) := by decide +kernel
theorem dX11_cast_0 : decode cX11_cast 0 = .ok (.iload_n 1, 1) := by decide +kernel
theorem dX11_cast_1 : decode cX11_cast 1 = .ok (.iconst 1, 1) := by decide +kernel
theorem dX11_cast_2 : decode cX11_cast 2 = .ok (.if_icmp .lt 14, 3) := by decide +kernel
theorem dX11_cast_5 : decode cX11_cast 5 = .ok (.iload_n 1, 1) := by decide +kernel
theorem dX11_cast_6 : decode cX11_cast 6 = .ok (.iconst 5, 1) := by decide +kernel
theorem dX11_cast_7 : decode cX11_cast 7 = .ok (.if_icmp .gt 9, 3) := by decide +kernel
theorem dX11_cast_10 : decode cX11_cast 10 = .ok (.iload_n 2, 1) := by decide +kernel
theorem dX11_cast_11 : decode cX11_cast 11 = .ok (.bipush 12, 2) := by decide +kernel
theorem dX11_cast_13 : decode cX11_cast 13 = .ok (.if_icmp .le 5, 3) := by decide +kernel
theorem dX11_cast_16 : decode cX11_cast 16 = .ok (.iconst (-1), 1) := by decide +kernel
theorem dX11_cast_17 : decode cX11_cast 17 = .ok (.ireturn, 1) := by decide +kernel
theorem dX11_cast_18 : decode cX11_cast 18 = .ok (.aload_n 0, 1) := by decide +kernel
theorem dX11_cast_19 : decode cX11_cast 19 = .ok (.getfield 60, 3) := by decide +kernel
theorem dX11_cast_22 : decode cX11_cast 22 = .ok (.getfield 334, 3) := by decide +kernel
theorem dX11_cast_25 : decode cX11_cast 25 = .ok (.bipush 10, 2) := by decide +kernel
theorem dX11_cast_27 : decode cX11_cast 27 = .ok (.if_icmp .lt 6, 3) := by decide +kernel
theorem dX11_cast_33 : decode cX11_cast 33 = .ok (.iload_n 2, 1) := by decide +kernel
theorem dX11_cast_34 : decode cX11_cast 34 = .ok (.ifCond .ge 9, 3) := by decide +kernel
theorem dX11_cast_37 : decode cX11_cast 37 = .ok (.aload_n 0, 1) := by decide +kernel
theorem dX11_cast_38 : decode cX11_cast 38 = .ok (.iconst 5, 1) := by decide +kernel
theorem dX11_cast_39 : decode cX11_cast 39 = .ok (.invokevirtual 128, 3) := by decide +kernel
theorem dX11_cast_42 : decode cX11_cast 42 = .ok (.ireturn, 1) := by decide +kernel
theorem dX11_cast_43 : decode cX11_cast 43 = .ok (.aload_n 0, 1) := by decide +kernel
theorem dX11_cast_44 : decode cX11_cast 44 = .ok (.getfield 60, 3) := by decide +kernel
theorem dX11_cast_47 : decode cX11_cast 47 = .ok (.iload_n 1, 1) := by decide +kernel
theorem dX11_cast_48 : decode cX11_cast 48 = .ok (.iload_n 2, 1) := by decide +kernel
theorem dX11_cast_49 : decode cX11_cast 49 = .ok (.invokevirtual 337, 3) := by decide +kernel
theorem dX11_cast_52 : decode cX11_cast 52 = .ok (.ireturn, 1) := by decide +kernel
theorem dX11_role_0 : decode cX11_role 0 = .ok (.iload_n 1, 1) := by decide +kernel
theorem dX11_role_1 : decode cX11_role 1 = .ok (.aload_n 0, 1) := by decide +kernel
theorem dX11_role_2 : decode cX11_role 2 = .ok (.getfield 60, 3) := by decide +kernel
theorem dX11_role_5 : decode cX11_role 5 = .ok (.getfield 334, 3) := by decide +kernel
theorem dX11_role_8 : decode cX11_role 8 = .ok (.invokestatic 91, 3) := by decide +kernel
theorem dX11_role_11 : decode cX11_role 11 = .ok (.ifCond .eq 20, 3) := by decide +kernel
theorem dX11_role_31 : decode cX11_role 31 = .ok (.iconst (-1), 1) := by decide +kernel
theorem dX11_role_32 : decode cX11_role 32 = .ok (.ireturn, 1) := by decide +kernel
theorem dX11_who_0 : decode cX11_who 0 = .ok (.iload_n 1, 1) := by decide +kernel
theorem dX11_who_1 : decode cX11_who 1 = .ok (.aload_n 0, 1) := by decide +kernel
theorem dX11_who_2 : decode cX11_who 2 = .ok (.getfield 60, 3) := by decide +kernel
theorem dX11_who_5 : decode cX11_who 5 = .ok (.getfield 334, 3) := by decide +kernel
theorem dX11_who_8 : decode cX11_who 8 = .ok (.invokestatic 91, 3) := by decide +kernel
theorem dX11_who_11 : decode cX11_who 11 = .ok (.ifCond .ne 5, 3) := by decide +kernel
theorem dX11_who_14 : decode cX11_who 14 = .ok (.iconst (-1), 1) := by decide +kernel
theorem dX11_who_15 : decode cX11_who 15 = .ok (.ireturn, 1) := by decide +kernel
theorem dX11_count_0 : decode cX11_count 0 = .ok (.iload_n 1, 1) := by decide +kernel
theorem dX11_count_1 : decode cX11_count 1 = .ok (.tableswitch 154 0 7 #[47, 57, 67, 77, 87, 97, 107, 132], 47) := by decide +kernel
theorem dX11_count_48 : decode cX11_count 48 = .ok (.aload_n 0, 1) := by decide +kernel
theorem dX11_count_49 : decode cX11_count 49 = .ok (.getfield 10, 3) := by decide +kernel
theorem dX11_count_52 : decode cX11_count 52 = .ok (.getfield 84, 3) := by decide +kernel
theorem dX11_count_55 : decode cX11_count 55 = .ok (.goto 101, 3) := by decide +kernel
theorem dX11_count_58 : decode cX11_count 58 = .ok (.aload_n 0, 1) := by decide +kernel
theorem dX11_count_59 : decode cX11_count 59 = .ok (.getfield 10, 3) := by decide +kernel
theorem dX11_count_62 : decode cX11_count 62 = .ok (.getfield 102, 3) := by decide +kernel
theorem dX11_count_65 : decode cX11_count 65 = .ok (.goto 91, 3) := by decide +kernel
theorem dX11_count_68 : decode cX11_count 68 = .ok (.aload_n 0, 1) := by decide +kernel
theorem dX11_count_69 : decode cX11_count 69 = .ok (.getfield 21, 3) := by decide +kernel
theorem dX11_count_72 : decode cX11_count 72 = .ok (.getfield 191, 3) := by decide +kernel
theorem dX11_count_75 : decode cX11_count 75 = .ok (.goto 81, 3) := by decide +kernel
theorem dX11_count_78 : decode cX11_count 78 = .ok (.aload_n 0, 1) := by decide +kernel
theorem dX11_count_79 : decode cX11_count 79 = .ok (.getfield 21, 3) := by decide +kernel
theorem dX11_count_82 : decode cX11_count 82 = .ok (.getfield 168, 3) := by decide +kernel
theorem dX11_count_85 : decode cX11_count 85 = .ok (.goto 71, 3) := by decide +kernel
theorem dX11_count_88 : decode cX11_count 88 = .ok (.aload_n 0, 1) := by decide +kernel
theorem dX11_count_89 : decode cX11_count 89 = .ok (.getfield 60, 3) := by decide +kernel
theorem dX11_count_92 : decode cX11_count 92 = .ok (.getfield 334, 3) := by decide +kernel
theorem dX11_count_95 : decode cX11_count 95 = .ok (.goto 61, 3) := by decide +kernel
theorem dX11_count_98 : decode cX11_count 98 = .ok (.aload_n 0, 1) := by decide +kernel
theorem dX11_count_99 : decode cX11_count 99 = .ok (.getfield 46, 3) := by decide +kernel
theorem dX11_count_102 : decode cX11_count 102 = .ok (.getfield 254, 3) := by decide +kernel
theorem dX11_count_105 : decode cX11_count 105 = .ok (.goto 51, 3) := by decide +kernel
theorem dX11_count_108 : decode cX11_count 108 = .ok (.aload_n 0, 1) := by decide +kernel
theorem dX11_count_109 : decode cX11_count 109 = .ok (.getfield 46, 3) := by decide +kernel
theorem dX11_count_112 : decode cX11_count 112 = .ok (.getfield 257, 3) := by decide +kernel
theorem dX11_count_115 : decode cX11_count 115 = .ok (.ifCond .eq 13, 3) := by decide +kernel
theorem dX11_count_128 : decode cX11_count 128 = .ok (.bipush (-9), 2) := by decide +kernel
theorem dX11_count_130 : decode cX11_count 130 = .ok (.goto 26, 3) := by decide +kernel
theorem dX11_count_133 : decode cX11_count 133 = .ok (.aload_n 0, 1) := by decide +kernel
theorem dX11_count_134 : decode cX11_count 134 = .ok (.getfield 64, 3) := by decide +kernel
theorem dX11_count_137 : decode cX11_count 137 = .ok (.ifnonnull 8, 3) := by decide +kernel
theorem dX11_count_140 : decode cX11_count 140 = .ok (.bipush (-9), 2) := by decide +kernel
theorem dX11_count_142 : decode cX11_count 142 = .ok (.goto 14, 3) := by decide +kernel
theorem dX11_count_155 : decode cX11_count 155 = .ok (.iconst (-1), 1) := by decide +kernel
theorem dX11_count_156 : decode cX11_count 156 = .ok (.ireturn, 1) := by decide +kernel
theorem dX11_finding_0 : decode cX11_finding 0 = .ok (.aload_n 0, 1) := by decide +kernel
theorem dX11_finding_1 : decode cX11_finding 1 = .ok (.getfield 72, 3) := by decide +kernel
theorem dX11_finding_4 : decode cX11_finding 4 = .ok (.ireturn, 1) := by decide +kernel
theorem dX11_findings_0 : decode cX11_findings 0 = .ok (.iload_n 1, 1) := by decide +kernel
theorem dX11_findings_1 : decode cX11_findings 1 = .ok (.iconst 1, 1) := by decide +kernel
theorem dX11_findings_2 : decode cX11_findings 2 = .ok (.if_icmp .lt 9, 3) := by decide +kernel
theorem dX11_findings_5 : decode cX11_findings 5 = .ok (.iload_n 1, 1) := by decide +kernel
theorem dX11_findings_6 : decode cX11_findings 6 = .ok (.bipush 6, 2) := by decide +kernel
theorem dX11_findings_8 : decode cX11_findings 8 = .ok (.if_icmp .le 7, 3) := by decide +kernel
theorem dX11_findings_11 : decode cX11_findings 11 = .ok (.iconst (-1), 1) := by decide +kernel
theorem dX11_findings_12 : decode cX11_findings 12 = .ok (.goto 9, 3) := by decide +kernel
theorem dX11_findings_15 : decode cX11_findings 15 = .ok (.aload_n 0, 1) := by decide +kernel
theorem dX11_findings_16 : decode cX11_findings 16 = .ok (.getfield 68, 3) := by decide +kernel
theorem dX11_findings_19 : decode cX11_findings 19 = .ok (.iload_n 1, 1) := by decide +kernel
theorem dX11_findings_20 : decode cX11_findings 20 = .ok (.iaload, 1) := by decide +kernel
theorem dX11_findings_21 : decode cX11_findings 21 = .ok (.ireturn, 1) := by decide +kernel
theorem dX11_digest_0 : decode cX11_digest 0 = .ok (.aload_n 0, 1) := by decide +kernel
theorem dX11_digest_1 : decode cX11_digest 1 = .ok (.aload_n 0, 1) := by decide +kernel
theorem dX11_digest_2 : decode cX11_digest 2 = .ok (.aload_n 0, 1) := by decide +kernel
theorem dX11_digest_3 : decode cX11_digest 3 = .ok (.ldc2_w 350, 3) := by decide +kernel
theorem dX11_digest_6 : decode cX11_digest 6 = .ok (.invokevirtual 352, 3) := by decide +kernel
theorem dX11_digest_9 : decode cX11_digest 9 = .ok (.invokevirtual 356, 3) := by decide +kernel
theorem dX11_digest_12 : decode cX11_digest 12 = .ok (.invokevirtual 359, 3) := by decide +kernel
theorem dX11_digest_15 : decode cX11_digest 15 = .ok (.lreturn, 1) := by decide +kernel
theorem dX11_digestKinds_0 : decode cX11_digestKinds 0 = .ok (.lload_n 1, 1) := by decide +kernel
theorem dX11_digestKinds_1 : decode cX11_digestKinds 1 = .ok (.lstore_n 3, 1) := by decide +kernel
theorem dX11_digestKinds_2 : decode cX11_digestKinds 2 = .ok (.iconst 0, 1) := by decide +kernel
theorem dX11_digestKinds_3 : decode cX11_digestKinds 3 = .ok (.istore 5, 2) := by decide +kernel
theorem dX11_digestKinds_5 : decode cX11_digestKinds 5 = .ok (.iload 5, 2) := by decide +kernel
theorem dX11_digestKinds_7 : decode cX11_digestKinds 7 = .ok (.aload_n 0, 1) := by decide +kernel
theorem dX11_digestKinds_8 : decode cX11_digestKinds 8 = .ok (.getfield 10, 3) := by decide +kernel
theorem dX11_digestKinds_11 : decode cX11_digestKinds 11 = .ok (.getfield 84, 3) := by decide +kernel
theorem dX11_digestKinds_14 : decode cX11_digestKinds 14 = .ok (.if_icmp .ge 67, 3) := by decide +kernel
theorem dX11_digestKinds_17 : decode cX11_digestKinds 17 = .ok (.ldc2_w 362, 3) := by decide +kernel
theorem dX11_digestKinds_20 : decode cX11_digestKinds 20 = .ok (.lload_n 3, 1) := by decide +kernel
theorem dX11_digestKinds_21 : decode cX11_digestKinds 21 = .ok (.lmul, 1) := by decide +kernel
theorem dX11_digestKinds_22 : decode cX11_digestKinds 22 = .ok (.aload_n 0, 1) := by decide +kernel
theorem dX11_digestKinds_23 : decode cX11_digestKinds 23 = .ok (.getfield 10, 3) := by decide +kernel
theorem dX11_digestKinds_26 : decode cX11_digestKinds 26 = .ok (.getfield 364, 3) := by decide +kernel
theorem dX11_digestKinds_29 : decode cX11_digestKinds 29 = .ok (.iload 5, 2) := by decide +kernel
theorem dX11_digestKinds_31 : decode cX11_digestKinds 31 = .ok (.iaload, 1) := by decide +kernel
theorem dX11_digestKinds_32 : decode cX11_digestKinds 32 = .ok (.i2l, 1) := by decide +kernel
theorem dX11_digestKinds_33 : decode cX11_digestKinds 33 = .ok (.ladd, 1) := by decide +kernel
theorem dX11_digestKinds_34 : decode cX11_digestKinds 34 = .ok (.lstore_n 3, 1) := by decide +kernel
theorem dX11_digestKinds_35 : decode cX11_digestKinds 35 = .ok (.iconst 0, 1) := by decide +kernel
theorem dX11_digestKinds_36 : decode cX11_digestKinds 36 = .ok (.istore 6, 2) := by decide +kernel
theorem dX11_digestKinds_38 : decode cX11_digestKinds 38 = .ok (.iload 6, 2) := by decide +kernel
theorem dX11_digestKinds_40 : decode cX11_digestKinds 40 = .ok (.bipush 6, 2) := by decide +kernel
theorem dX11_digestKinds_42 : decode cX11_digestKinds 42 = .ok (.if_icmp .ge 33, 3) := by decide +kernel
theorem dX11_digestKinds_45 : decode cX11_digestKinds 45 = .ok (.ldc2_w 362, 3) := by decide +kernel
theorem dX11_digestKinds_48 : decode cX11_digestKinds 48 = .ok (.lload_n 3, 1) := by decide +kernel
theorem dX11_digestKinds_49 : decode cX11_digestKinds 49 = .ok (.lmul, 1) := by decide +kernel
theorem dX11_digestKinds_50 : decode cX11_digestKinds 50 = .ok (.aload_n 0, 1) := by decide +kernel
theorem dX11_digestKinds_51 : decode cX11_digestKinds 51 = .ok (.getfield 10, 3) := by decide +kernel
theorem dX11_digestKinds_54 : decode cX11_digestKinds 54 = .ok (.getfield 367, 3) := by decide +kernel
theorem dX11_digestKinds_57 : decode cX11_digestKinds 57 = .ok (.iload 5, 2) := by decide +kernel
