theorem dX11_act_1 : decode cX11_act 1 = .ok (.getfield 46, 3) := by decide +kernel
theorem dX11_act_4 : decode cX11_act 4 = .ok (.iload_n 1, 1) := by decide +kernel
theorem dX11_act_5 : decode cX11_act 5 = .ok (.iload_n 2, 1) := by decide +kernel
theorem dX11_act_6 : decode cX11_act 6 = .ok (.iload_n 3, 1) := by decide +kernel
theorem dX11_act_7 : decode cX11_act 7 = .ok (.invokevirtual 251, 3) := by decide +kernel
theorem dX11_act_10 : decode cX11_act 10 = .ok (.ifCond .ne 5, 3) := by decide +kernel
theorem dX11_act_13 : decode cX11_act 13 = .ok (.iconst (-1), 1) := by decide +kernel
theorem dX11_act_14 : decode cX11_act 14 = .ok (.ireturn, 1) := by decide +kernel
theorem dX11_act_15 : decode cX11_act 15 = .ok (.aload_n 0, 1) := by decide +kernel
theorem dX11_act_16 : decode cX11_act 16 = .ok (.getfield 46, 3) := by decide +kernel
theorem dX11_act_19 : decode cX11_act 19 = .ok (.getfield 254, 3) := by decide +kernel
theorem dX11_act_22 : decode cX11_act 22 = .ok (.bipush 100, 2) := by decide +kernel
theorem dX11_act_24 : decode cX11_act 24 = .ok (.if_icmp .lt 6, 3) := by decide +kernel
theorem dX11_act_27 : decode cX11_act 27 = .ok (.bipush (-2), 2) := by decide +kernel
theorem dX11_act_29 : decode cX11_act 29 = .ok (.ireturn, 1) := by decide +kernel
theorem dX11_act_30 : decode cX11_act 30 = .ok (.aload_n 0, 1) := by decide +kernel
theorem dX11_act_31 : decode cX11_act 31 = .ok (.getfield 46, 3) := by decide +kernel
theorem dX11_act_34 : decode cX11_act 34 = .ok (.getfield 257, 3) := by decide +kernel
theorem dX11_act_37 : decode cX11_act 37 = .ok (.ifCond .ne 6, 3) := by decide +kernel
theorem dX11_act_40 : decode cX11_act 40 = .ok (.bipush (-5), 2) := by decide +kernel
theorem dX11_act_42 : decode cX11_act 42 = .ok (.ireturn, 1) := by decide +kernel
theorem dX11_act_43 : decode cX11_act 43 = .ok (.aload_n 0, 1) := by decide +kernel
theorem dX11_act_44 : decode cX11_act 44 = .ok (.getfield 46, 3) := by decide +kernel
theorem dX11_act_47 : decode cX11_act 47 = .ok (.iload_n 1, 1) := by decide +kernel
theorem dX11_act_48 : decode cX11_act 48 = .ok (.iload_n 2, 1) := by decide +kernel
theorem dX11_act_49 : decode cX11_act 49 = .ok (.iload_n 3, 1) := by decide +kernel
theorem dX11_act_50 : decode cX11_act 50 = .ok (.invokevirtual 261, 3) := by decide +kernel
theorem dX11_act_53 : decode cX11_act 53 = .ok (.ireturn, 1) := by decide +kernel
theorem dX11_back_0 : decode cX11_back 0 = .ok (.aload_n 0, 1) := by decide +kernel
theorem dX11_back_1 : decode cX11_back 1 = .ok (.getfield 46, 3) := by decide +kernel
theorem dX11_back_4 : decode cX11_back 4 = .ok (.getfield 257, 3) := by decide +kernel
theorem dX11_back_7 : decode cX11_back 7 = .ok (.ifCond .eq 13, 3) := by decide +kernel
theorem dX11_back_10 : decode cX11_back 10 = .ok (.aload_n 0, 1) := by decide +kernel
theorem dX11_back_11 : decode cX11_back 11 = .ok (.getfield 46, 3) := by decide +kernel
theorem dX11_back_14 : decode cX11_back 14 = .ok (.getfield 254, 3) := by decide +kernel
theorem dX11_back_17 : decode cX11_back 17 = .ok (.ifCond .ne 6, 3) := by decide +kernel
theorem dX11_back_20 : decode cX11_back 20 = .ok (.bipush (-5), 2) := by decide +kernel
theorem dX11_back_22 : decode cX11_back 22 = .ok (.ireturn, 1) := by decide +kernel
theorem dX11_back_23 : decode cX11_back 23 = .ok (.aload_n 0, 1) := by decide +kernel
theorem dX11_back_24 : decode cX11_back 24 = .ok (.getfield 46, 3) := by decide +kernel
theorem dX11_back_27 : decode cX11_back 27 = .ok (.invokevirtual 264, 3) := by decide +kernel
theorem dX11_back_30 : decode cX11_back 30 = .ok (.aload_n 0, 1) := by decide +kernel
theorem dX11_back_31 : decode cX11_back 31 = .ok (.getfield 46, 3) := by decide +kernel
theorem dX11_back_34 : decode cX11_back 34 = .ok (.getfield 254, 3) := by decide +kernel
theorem dX11_back_37 : decode cX11_back 37 = .ok (.ireturn, 1) := by decide +kernel
theorem dX11_now_0 : decode cX11_now 0 = .ok (.aload_n 0, 1) := by decide +kernel
theorem dX11_now_1 : decode cX11_now 1 = .ok (.getfield 10, 3) := by decide +kernel
theorem dX11_now_4 : decode cX11_now 4 = .ok (.iload_n 1, 1) := by decide +kernel
theorem dX11_now_5 : decode cX11_now 5 = .ok (.invokevirtual 109, 3) := by decide +kernel
theorem dX11_now_8 : decode cX11_now 8 = .ok (.ifCond .eq 12, 3) := by decide +kernel
theorem dX11_now_11 : decode cX11_now 11 = .ok (.iload_n 2, 1) := by decide +kernel
theorem dX11_now_12 : decode cX11_now 12 = .ok (.bipush 7, 2) := by decide +kernel
theorem dX11_now_14 : decode cX11_now 14 = .ok (.invokestatic 91, 3) := by decide +kernel
theorem dX11_now_17 : decode cX11_now 17 = .ok (.ifCond .ne 5, 3) := by decide +kernel
theorem dX11_now_20 : decode cX11_now 20 = .ok (.iconst (-1), 1) := by decide +kernel
theorem dX11_now_21 : decode cX11_now 21 = .ok (.ireturn, 1) := by decide +kernel
theorem dX11_now_22 : decode cX11_now 22 = .ok (.aload_n 0, 1) := by decide +kernel
theorem dX11_now_23 : decode cX11_now 23 = .ok (.getfield 46, 3) := by decide +kernel
theorem dX11_now_26 : decode cX11_now 26 = .ok (.getfield 257, 3) := by decide +kernel
theorem dX11_now_29 : decode cX11_now 29 = .ok (.ifCond .ne 6, 3) := by decide +kernel
theorem dX11_now_32 : decode cX11_now 32 = .ok (.bipush (-5), 2) := by decide +kernel
theorem dX11_now_34 : decode cX11_now 34 = .ok (.ireturn, 1) := by decide +kernel
theorem dX11_now_35 : decode cX11_now 35 = .ok (.aload_n 0, 1) := by decide +kernel
theorem dX11_now_36 : decode cX11_now 36 = .ok (.getfield 46, 3) := by decide +kernel
theorem dX11_now_39 : decode cX11_now 39 = .ok (.iload_n 1, 1) := by decide +kernel
theorem dX11_now_40 : decode cX11_now 40 = .ok (.iload_n 2, 1) := by decide +kernel
theorem dX11_now_41 : decode cX11_now 41 = .ok (.invokevirtual 267, 3) := by decide +kernel
theorem dX11_now_44 : decode cX11_now 44 = .ok (.ireturn, 1) := by decide +kernel
theorem dX11_turn_0 : decode cX11_turn 0 = .ok (.iload_n 2, 1) := by decide +kernel
theorem dX11_turn_1 : decode cX11_turn 1 = .ok (.iconst 3, 1) := by decide +kernel
theorem dX11_turn_2 : decode cX11_turn 2 = .ok (.invokestatic 91, 3) := by decide +kernel
theorem dX11_turn_5 : decode cX11_turn 5 = .ok (.ifCond .eq 7, 3) := by decide +kernel
theorem dX11_turn_8 : decode cX11_turn 8 = .ok (.iload_n 1, 1) := by decide +kernel
theorem dX11_turn_9 : decode cX11_turn 9 = .ok (.ifCond .ge 5, 3) := by decide +kernel
theorem dX11_turn_12 : decode cX11_turn 12 = .ok (.iconst (-1), 1) := by decide +kernel
theorem dX11_turn_13 : decode cX11_turn 13 = .ok (.ireturn, 1) := by decide +kernel
theorem dX11_turn_14 : decode cX11_turn 14 = .ok (.aload_n 0, 1) := by decide +kernel
theorem dX11_turn_15 : decode cX11_turn 15 = .ok (.getfield 46, 3) := by decide +kernel
theorem dX11_turn_18 : decode cX11_turn 18 = .ok (.getfield 257, 3) := by decide +kernel
theorem dX11_turn_21 : decode cX11_turn 21 = .ok (.ifCond .ne 6, 3) := by decide +kernel
theorem dX11_turn_24 : decode cX11_turn 24 = .ok (.bipush (-5), 2) := by decide +kernel
theorem dX11_turn_26 : decode cX11_turn 26 = .ok (.ireturn, 1) := by decide +kernel
theorem dX11_turn_27 : decode cX11_turn 27 = .ok (.iload_n 1, 1) := by decide +kernel
theorem dX11_turn_28 : decode cX11_turn 28 = .ok (.aload_n 0, 1) := by decide +kernel
theorem dX11_turn_29 : decode cX11_turn 29 = .ok (.getfield 46, 3) := by decide +kernel
theorem dX11_turn_32 : decode cX11_turn 32 = .ok (.getfield 254, 3) := by decide +kernel
theorem dX11_turn_35 : decode cX11_turn 35 = .ok (.if_icmp .lt 5, 3) := by decide +kernel
theorem dX11_turn_38 : decode cX11_turn 38 = .ok (.iconst (-1), 1) := by decide +kernel
theorem dX11_turn_39 : decode cX11_turn 39 = .ok (.ireturn, 1) := by decide +kernel
theorem dX11_turn_40 : decode cX11_turn 40 = .ok (.aload_n 0, 1) := by decide +kernel
theorem dX11_turn_41 : decode cX11_turn 41 = .ok (.getfield 46, 3) := by decide +kernel
theorem dX11_turn_44 : decode cX11_turn 44 = .ok (.getfield 268, 3) := by decide +kernel
theorem dX11_turn_47 : decode cX11_turn 47 = .ok (.iload_n 1, 1) := by decide +kernel
theorem dX11_turn_48 : decode cX11_turn 48 = .ok (.iaload, 1) := by decide +kernel
theorem dX11_turn_49 : decode cX11_turn 49 = .ok (.iload_n 2, 1) := by decide +kernel
theorem dX11_turn_50 : decode cX11_turn 50 = .ok (.invokestatic 271, 3) := by decide +kernel
theorem dX11_turn_53 : decode cX11_turn 53 = .ok (.ireturn, 1) := by decide +kernel
theorem dX11_light_0 : decode cX11_light 0 = .ok (.aload_n 0, 1) := by decide +kernel
theorem dX11_light_1 : decode cX11_light 1 = .ok (.getfield 46, 3) := by decide +kernel
theorem dX11_light_4 : decode cX11_light 4 = .ok (.getfield 257, 3) := by decide +kernel
theorem dX11_light_7 : decode cX11_light 7 = .ok (.ifCond .ne 6, 3) := by decide +kernel
theorem dX11_light_10 : decode cX11_light 10 = .ok (.bipush (-5), 2) := by decide +kernel
theorem dX11_light_12 : decode cX11_light 12 = .ok (.ireturn, 1) := by decide +kernel
theorem dX11_light_13 : decode cX11_light 13 = .ok (.aload_n 0, 1) := by decide +kernel
theorem dX11_light_14 : decode cX11_light 14 = .ok (.getfield 46, 3) := by decide +kernel
theorem dX11_light_17 : decode cX11_light 17 = .ok (.getfield 274, 3) := by decide +kernel
theorem dX11_light_20 : decode cX11_light 20 = .ok (.getfield 278, 3) := by decide +kernel
theorem dX11_light_23 : decode cX11_light 23 = .ok (.invokestatic 118, 3) := by decide +kernel
theorem dX11_light_26 : decode cX11_light 26 = .ok (.ireturn, 1) := by decide +kernel
theorem dX11_seek_0 : decode cX11_seek 0 = .ok (.aload_n 0, 1) := by decide +kernel
theorem dX11_seek_1 : decode cX11_seek 1 = .ok (.getfield 10, 3) := by decide +kernel
theorem dX11_seek_4 : decode cX11_seek 4 = .ok (.iload_n 1, 1) := by decide +kernel
theorem dX11_seek_5 : decode cX11_seek 5 = .ok (.invokevirtual 109, 3) := by decide +kernel
theorem dX11_seek_8 : decode cX11_seek 8 = .ok (.ifCond .eq 25, 3) := by decide +kernel
theorem dX11_seek_11 : decode cX11_seek 11 = .ok (.aload_n 0, 1) := by decide +kernel
theorem dX11_seek_12 : decode cX11_seek 12 = .ok (.getfield 10, 3) := by decide +kernel
theorem dX11_seek_15 : decode cX11_seek 15 = .ok (.iload_n 2, 1) := by decide +kernel
theorem dX11_seek_16 : decode cX11_seek 16 = .ok (.invokevirtual 109, 3) := by decide +kernel
theorem dX11_seek_19 : decode cX11_seek 19 = .ok (.ifCond .eq 14, 3) := by decide +kernel
theorem dX11_seek_22 : decode cX11_seek 22 = .ok (.iload_n 3, 1) := by decide +kernel
theorem dX11_seek_23 : decode cX11_seek 23 = .ok (.ifCond .lt 10, 3) := by decide +kernel
theorem dX11_seek_26 : decode cX11_seek 26 = .ok (.iload_n 3, 1) := by decide +kernel
theorem dX11_seek_27 : decode cX11_seek 27 = .ok (.sipush 300, 3) := by decide +kernel
theorem dX11_seek_30 : decode cX11_seek 30 = .ok (.if_icmp .le 5, 3) := by decide +kernel
theorem dX11_seek_33 : decode cX11_seek 33 = .ok (.iconst (-1), 1) := by decide +kernel
theorem dX11_seek_34 : decode cX11_seek 34 = .ok (.ireturn, 1) := by decide +kernel
theorem dX11_seek_35 : decode cX11_seek 35 = .ok (.aload_n 0, 1) := by decide +kernel
theorem dX11_seek_36 : decode cX11_seek 36 = .ok (.getfield 46, 3) := by decide +kernel
theorem dX11_seek_39 : decode cX11_seek 39 = .ok (.getfield 257, 3) := by decide +kernel
theorem dX11_seek_42 : decode cX11_seek 42 = .ok (.ifCond .ne 6, 3) := by decide +kernel
theorem dX11_seek_45 : decode cX11_seek 45 = .ok (.bipush (-5), 2) := by decide +kernel
theorem dX11_seek_47 : decode cX11_seek 47 = .ok (.ireturn, 1) := by decide +kernel
theorem dX11_seek_48 : decode cX11_seek 48 = .ok (.aload_n 0, 1) := by decide +kernel
theorem dX11_seek_49 : decode cX11_seek 49 = .ok (.getfield 64, 3) := by decide +kernel
theorem dX11_seek_52 : decode cX11_seek 52 = .ok (.ifnonnull 30, 3) := by decide +kernel
theorem dX11_seek_55 : decode cX11_seek 55 = .ok (.aload_n 0, 1) := by decide +kernel
theorem dX11_seek_56 : decode cX11_seek 56 = .ok (.new 283, 3) := by decide +kernel
theorem dX11_seek_59 : decode cX11_seek 59 = .ok (.dup, 1) := by decide +kernel
theorem dX11_seek_60 : decode cX11_seek 60 = .ok (.aload_n 0, 1) := by decide +kernel
theorem dX11_seek_61 : decode cX11_seek 61 = .ok (.getfield 10, 3) := by decide +kernel
theorem dX11_seek_64 : decode cX11_seek 64 = .ok (.aload_n 0, 1) := by decide +kernel
theorem dX11_seek_65 : decode cX11_seek 65 = .ok (.getfield 21, 3) := by decide +kernel
theorem dX11_seek_68 : decode cX11_seek 68 = .ok (.aload_n 0, 1) := by decide +kernel
theorem dX11_seek_69 : decode cX11_seek 69 = .ok (.getfield 30, 3) := by decide +kernel
theorem dX11_seek_72 : decode cX11_seek 72 = .ok (.aload_n 0, 1) := by decide +kernel
theorem dX11_seek_73 : decode cX11_seek 73 = .ok (.getfield 37, 3) := by decide +kernel
theorem dX11_seek_76 : decode cX11_seek 76 = .ok (.invokespecial 285, 3) := by decide +kernel
theorem dX11_seek_79 : decode cX11_seek 79 = .ok (.putfield 64, 3) := by decide +kernel
theorem dX11_seek_82 : decode cX11_seek 82 = .ok (.aload_n 0, 1) := by decide +kernel
theorem dX11_seek_83 : decode cX11_seek 83 = .ok (.getfield 64, 3) := by decide +kernel
theorem dX11_seek_86 : decode cX11_seek 86 = .ok (.aload_n 0, 1) := by decide +kernel
theorem dX11_seek_87 : decode cX11_seek 87 = .ok (.getfield 46, 3) := by decide +kernel
theorem dX11_seek_90 : decode cX11_seek 90 = .ok (.getfield 286, 3) := by decide +kernel
theorem dX11_seek_93 : decode cX11_seek 93 = .ok (.aload_n 0, 1) := by decide +kernel
theorem dX11_seek_94 : decode cX11_seek 94 = .ok (.getfield 46, 3) := by decide +kernel
theorem dX11_seek_97 : decode cX11_seek 97 = .ok (.getfield 289, 3) := by decide +kernel
theorem dX11_seek_100 : decode cX11_seek 100 = .ok (.invokevirtual 292, 3) := by decide +kernel
theorem dX11_seek_103 : decode cX11_seek 103 = .ok (.aload_n 0, 1) := by decide +kernel
theorem dX11_seek_104 : decode cX11_seek 104 = .ok (.getfield 64, 3) := by decide +kernel
theorem dX11_seek_107 : decode cX11_seek 107 = .ok (.iload_n 1, 1) := by decide +kernel
theorem dX11_seek_108 : decode cX11_seek 108 = .ok (.iload_n 2, 1) := by decide +kernel
theorem dX11_seek_109 : decode cX11_seek 109 = .ok (.iload_n 3, 1) := by decide +kernel
theorem dX11_seek_110 : decode cX11_seek 110 = .ok (.invokevirtual 296, 3) := by decide +kernel
theorem dX11_seek_113 : decode cX11_seek 113 = .ok (.ireturn, 1) := by decide +kernel
theorem dX11_sought_0 : decode cX11_sought 0 = .ok (.iload_n 2, 1) := by decide +kernel
theorem dX11_sought_1 : decode cX11_sought 1 = .ok (.iconst 3, 1) := by decide +kernel
theorem dX11_sought_2 : decode cX11_sought 2 = .ok (.invokestatic 91, 3) := by decide +kernel
theorem dX11_sought_5 : decode cX11_sought 5 = .ok (.ifCond .ne 5, 3) := by decide +kernel
theorem dX11_sought_8 : decode cX11_sought 8 = .ok (.iconst (-1), 1) := by decide +kernel
theorem dX11_sought_9 : decode cX11_sought 9 = .ok (.ireturn, 1) := by decide +kernel
theorem dX11_sought_10 : decode cX11_sought 10 = .ok (.aload_n 0, 1) := by decide +kernel
theorem dX11_sought_11 : decode cX11_sought 11 = .ok (.getfield 64, 3) := by decide +kernel
theorem dX11_sought_14 : decode cX11_sought 14 = .ok (.ifnull 17, 3) := by decide +kernel
theorem dX11_sought_17 : decode cX11_sought 17 = .ok (.iload_n 1, 1) := by decide +kernel
theorem dX11_sought_18 : decode cX11_sought 18 = .ok (.aload_n 0, 1) := by decide +kernel
theorem dX11_sought_19 : decode cX11_sought 19 = .ok (.getfield 64, 3) := by decide +kernel
theorem dX11_sought_22 : decode cX11_sought 22 = .ok (.getfield 299, 3) := by decide +kernel
theorem dX11_sought_25 : decode cX11_sought 25 = .ok (.invokestatic 91, 3) := by decide +kernel
theorem dX11_sought_28 : decode cX11_sought 28 = .ok (.ifCond .ne 6, 3) := by decide +kernel
theorem dX11_sought_31 : decode cX11_sought 31 = .ok (.bipush (-9), 2) := by decide +kernel
theorem dX11_sought_33 : decode cX11_sought 33 = .ok (.ireturn, 1) := by decide +kernel
theorem dX11_sought_34 : decode cX11_sought 34 = .ok (.aload_n 0, 1) := by decide +kernel
theorem dX11_sought_35 : decode cX11_sought 35 = .ok (.getfield 64, 3) := by decide +kernel
theorem dX11_sought_38 : decode cX11_sought 38 = .ok (.getfield 302, 3) := by decide +kernel
theorem dX11_sought_41 : decode cX11_sought 41 = .ok (.iload_n 1, 1) := by decide +kernel
theorem dX11_sought_42 : decode cX11_sought 42 = .ok (.iaload, 1) := by decide +kernel
theorem dX11_sought_43 : decode cX11_sought 43 = .ok (.iload_n 2, 1) := by decide +kernel
theorem dX11_sought_44 : decode cX11_sought 44 = .ok (.invokestatic 271, 3) := by decide +kernel
theorem dX11_sought_47 : decode cX11_sought 47 = .ok (.ireturn, 1) := by decide +kernel
theorem dX11_line_0 : decode cX11_line 0 = .ok (.aload_n 0, 1) := by decide +kernel
theorem dX11_line_1 : decode cX11_line 1 = .ok (.getfield 10, 3) := by decide +kernel
theorem dX11_line_4 : decode cX11_line 4 = .ok (.iload_n 1, 1) := by decide +kernel
theorem dX11_line_5 : decode cX11_line 5 = .ok (.invokevirtual 109, 3) := by decide +kernel
theorem dX11_line_8 : decode cX11_line 8 = .ok (.ifCond .eq 17, 3) := by decide +kernel
theorem dX11_line_11 : decode cX11_line 11 = .ok (.iload_n 2, 1) := by decide +kernel
theorem dX11_line_12 : decode cX11_line 12 = .ok (.iconst 4, 1) := by decide +kernel
theorem dX11_line_13 : decode cX11_line 13 = .ok (.invokestatic 91, 3) := by decide +kernel
theorem dX11_line_16 : decode cX11_line 16 = .ok (.ifCond .eq 9, 3) := by decide +kernel
theorem dX11_line_19 : decode cX11_line 19 = .ok (.iload_n 3, 1) := by decide +kernel
theorem dX11_line_20 : decode cX11_line 20 = .ok (.bipush 12, 2) := by decide +kernel
theorem dX11_line_22 : decode cX11_line 22 = .ok (.if_icmp .le 5, 3) := by decide +kernel
theorem dX11_line_25 : decode cX11_line 25 = .ok (.iconst (-1), 1) := by decide +kernel
theorem dX11_line_26 : decode cX11_line 26 = .ok (.ireturn, 1) := by decide +kernel
theorem dX11_line_27 : decode cX11_line 27 = .ok (.iload_n 3, 1) := by decide +kernel
theorem dX11_line_28 : decode cX11_line 28 = .ok (.ifCond .ge 9, 3) := by decide +kernel
theorem dX11_line_31 : decode cX11_line 31 = .ok (.aload_n 0, 1) := by decide +kernel
theorem dX11_line_32 : decode cX11_line 32 = .ok (.iconst 5, 1) := by decide +kernel
theorem dX11_line_33 : decode cX11_line 33 = .ok (.invokevirtual 128, 3) := by decide +kernel
theorem dX11_line_36 : decode cX11_line 36 = .ok (.ireturn, 1) := by decide +kernel
theorem dX11_line_37 : decode cX11_line 37 = .ok (.aload_n 0, 1) := by decide +kernel
theorem dX11_line_38 : decode cX11_line 38 = .ok (.getfield 53, 3) := by decide +kernel
theorem dX11_line_41 : decode cX11_line 41 = .ok (.iload_n 1, 1) := by decide +kernel
theorem dX11_line_42 : decode cX11_line 42 = .ok (.iload_n 2, 1) := by decide +kernel
theorem dX11_line_43 : decode cX11_line 43 = .ok (.iload_n 3, 1) := by decide +kernel
theorem dX11_line_44 : decode cX11_line 44 = .ok (.invokevirtual 304, 3) := by decide +kernel
theorem dX11_line_47 : decode cX11_line 47 = .ok (.iload_n 3, 1) := by decide +kernel
theorem dX11_line_48 : decode cX11_line 48 = .ok (.ireturn, 1) := by decide +kernel
theorem dX11_put_0 : decode cX11_put 0 = .ok (.aload_n 0, 1) := by decide +kernel
theorem dX11_put_1 : decode cX11_put 1 = .ok (.iload_n 1, 1) := by decide +kernel
theorem dX11_put_2 : decode cX11_put 2 = .ok (.iload_n 2, 1) := by decide +kernel
theorem dX11_put_3 : decode cX11_put 3 = .ok (.iload_n 3, 1) := by decide +kernel
theorem dX11_put_4 : decode cX11_put 4 = .ok (.invokevirtual 308, 3) := by decide +kernel
theorem dX11_put_7 : decode cX11_put 7 = .ok (.istore 6, 2) := by decide +kernel
theorem dX11_put_9 : decode cX11_put 9 = .ok (.iload 6, 2) := by decide +kernel
theorem dX11_put_11 : decode cX11_put 11 = .ok (.ifCond .eq 6, 3) := by decide +kernel
theorem dX11_put_14 : decode cX11_put 14 = .ok (.iload 6, 2) := by decide +kernel
theorem dX11_put_16 : decode cX11_put 16 = .ok (.ireturn, 1) := by decide +kernel
theorem dX11_put_17 : decode cX11_put 17 = .ok (.aload_n 0, 1) := by decide +kernel
theorem dX11_put_18 : decode cX11_put 18 = .ok (.getfield 53, 3) := by decide +kernel
theorem dX11_put_21 : decode cX11_put 21 = .ok (.getfield 311, 3) := by decide +kernel
theorem dX11_put_24 : decode cX11_put 24 = .ok (.iload_n 1, 1) := by decide +kernel
theorem dX11_put_25 : decode cX11_put 25 = .ok (.bipush 12, 2) := by decide +kernel
theorem dX11_put_27 : decode cX11_put 27 = .ok (.imul, 1) := by decide +kernel
theorem dX11_put_28 : decode cX11_put 28 = .ok (.iload_n 3, 1) := by decide +kernel
theorem dX11_put_29 : decode cX11_put 29 = .ok (.iadd, 1) := by decide +kernel
theorem dX11_put_30 : decode cX11_put 30 = .ok (.aload_n 0, 1) := by decide +kernel
theorem dX11_put_31 : decode cX11_put 31 = .ok (.getfield 53, 3) := by decide +kernel
theorem dX11_put_34 : decode cX11_put 34 = .ok (.iload_n 2, 1) := by decide +kernel
theorem dX11_put_35 : decode cX11_put 35 = .ok (.lload 4, 2) := by decide +kernel
theorem dX11_put_37 : decode cX11_put 37 = .ok (.invokevirtual 315, 3) := by decide +kernel
theorem dX11_put_40 : decode cX11_put 40 = .ok (.lastore, 1) := by decide +kernel
theorem dX11_put_41 : decode cX11_put 41 = .ok (.iconst 1, 1) := by decide +kernel
theorem dX11_put_42 : decode cX11_put 42 = .ok (.ireturn, 1) := by decide +kernel
theorem dX11_item_0 : decode cX11_item 0 = .ok (.aload_n 0, 1) := by decide +kernel
theorem dX11_item_1 : decode cX11_item 1 = .ok (.iload_n 1, 1) := by decide +kernel
theorem dX11_item_2 : decode cX11_item 2 = .ok (.iload_n 2, 1) := by decide +kernel
theorem dX11_item_3 : decode cX11_item 3 = .ok (.iload_n 3, 1) := by decide +kernel
theorem dX11_item_4 : decode cX11_item 4 = .ok (.invokevirtual 308, 3) := by decide +kernel
theorem dX11_item_7 : decode cX11_item 7 = .ok (.istore 4, 2) := by decide +kernel
theorem dX11_item_9 : decode cX11_item 9 = .ok (.iload 4, 2) := by decide +kernel
theorem dX11_item_11 : decode cX11_item 11 = .ok (.ifCond .eq 6, 3) := by decide +kernel
theorem dX11_item_14 : decode cX11_item 14 = .ok (.iload 4, 2) := by decide +kernel
theorem dX11_item_16 : decode cX11_item 16 = .ok (.ireturn, 1) := by decide +kernel
theorem dX11_item_17 : decode cX11_item 17 = .ok (.aload_n 0, 1) := by decide +kernel
theorem dX11_item_18 : decode cX11_item 18 = .ok (.aload_n 0, 1) := by decide +kernel
theorem dX11_item_19 : decode cX11_item 19 = .ok (.getfield 53, 3) := by decide +kernel
theorem dX11_item_22 : decode cX11_item 22 = .ok (.getfield 311, 3) := by decide +kernel
theorem dX11_item_25 : decode cX11_item 25 = .ok (.iload_n 1, 1) := by decide +kernel
theorem dX11_item_26 : decode cX11_item 26 = .ok (.bipush 12, 2) := by decide +kernel
theorem dX11_item_28 : decode cX11_item 28 = .ok (.imul, 1) := by decide +kernel
theorem dX11_item_29 : decode cX11_item 29 = .ok (.iload_n 3, 1) := by decide +kernel
theorem dX11_item_30 : decode cX11_item 30 = .ok (.iadd, 1) := by decide +kernel
theorem dX11_item_31 : decode cX11_item 31 = .ok (.laload, 1) := by decide +kernel
theorem dX11_item_32 : decode cX11_item 32 = .ok (.putfield 76, 3) := by decide +kernel
theorem dX11_item_35 : decode cX11_item 35 = .ok (.iconst 1, 1) := by decide +kernel
theorem dX11_item_36 : decode cX11_item 36 = .ok (.ireturn, 1) := by decide +kernel
theorem dX11_copy_0 : decode cX11_copy 0 = .ok (.aload_n 0, 1) := by decide +kernel
theorem dX11_copy_1 : decode cX11_copy 1 = .ok (.getfield 10, 3) := by decide +kernel
theorem dX11_copy_4 : decode cX11_copy 4 = .ok (.iload_n 1, 1) := by decide +kernel
theorem dX11_copy_5 : decode cX11_copy 5 = .ok (.invokevirtual 109, 3) := by decide +kernel
theorem dX11_copy_8 : decode cX11_copy 8 = .ok (.ifCond .eq 23, 3) := by decide +kernel
theorem dX11_copy_11 : decode cX11_copy 11 = .ok (.aload_n 0, 1) := by decide +kernel
theorem dX11_copy_12 : decode cX11_copy 12 = .ok (.getfield 10, 3) := by decide +kernel
theorem dX11_copy_15 : decode cX11_copy 15 = .ok (.iload 4, 2) := by decide +kernel
theorem dX11_copy_17 : decode cX11_copy 17 = .ok (.invokevirtual 109, 3) := by decide +kernel
theorem dX11_copy_20 : decode cX11_copy 20 = .ok (.ifCond .eq 11, 3) := by decide +kernel
theorem dX11_copy_23 : decode cX11_copy 23 = .ok (.iload_n 2, 1) := by decide +kernel
theorem dX11_copy_24 : decode cX11_copy 24 = .ok (.iconst 4, 1) := by decide +kernel
theorem dX11_copy_25 : decode cX11_copy 25 = .ok (.invokestatic 91, 3) := by decide +kernel
theorem dX11_copy_28 : decode cX11_copy 28 = .ok (.ifCond .ne 5, 3) := by decide +kernel
theorem dX11_copy_31 : decode cX11_copy 31 = .ok (.iconst (-1), 1) := by decide +kernel
theorem dX11_copy_32 : decode cX11_copy 32 = .ok (.ireturn, 1) := by decide +kernel
theorem dX11_copy_33 : decode cX11_copy 33 = .ok (.aload_n 0, 1) := by decide +kernel
theorem dX11_copy_34 : decode cX11_copy 34 = .ok (.getfield 53, 3) := by decide +kernel
theorem dX11_copy_37 : decode cX11_copy 37 = .ok (.iload_n 1, 1) := by decide +kernel
theorem dX11_copy_38 : decode cX11_copy 38 = .ok (.iload_n 2, 1) := by decide +kernel
theorem dX11_copy_39 : decode cX11_copy 39 = .ok (.invokevirtual 319, 3) := by decide +kernel
theorem dX11_copy_42 : decode cX11_copy 42 = .ok (.ifCond .ne 16, 3) := by decide +kernel
theorem dX11_copy_45 : decode cX11_copy 45 = .ok (.aload_n 0, 1) := by decide +kernel
theorem dX11_copy_46 : decode cX11_copy 46 = .ok (.getfield 53, 3) := by decide +kernel
theorem dX11_copy_49 : decode cX11_copy 49 = .ok (.iload 4, 2) := by decide +kernel
theorem dX11_copy_51 : decode cX11_copy 51 = .ok (.iload_n 2, 1) := by decide +kernel
theorem dX11_copy_52 : decode cX11_copy 52 = .ok (.invokevirtual 319, 3) := by decide +kernel
theorem dX11_copy_55 : decode cX11_copy 55 = .ok (.ifCond .eq 9, 3) := by decide +kernel
theorem dX11_copy_58 : decode cX11_copy 58 = .ok (.aload_n 0, 1) := by decide +kernel
theorem dX11_copy_59 : decode cX11_copy 59 = .ok (.iconst 3, 1) := by decide +kernel
theorem dX11_copy_60 : decode cX11_copy 60 = .ok (.invokevirtual 128, 3) := by decide +kernel
theorem dX11_copy_63 : decode cX11_copy 63 = .ok (.ireturn, 1) := by decide +kernel
theorem dX11_copy_64 : decode cX11_copy 64 = .ok (.aload_n 0, 1) := by decide +kernel
theorem dX11_copy_65 : decode cX11_copy 65 = .ok (.getfield 53, 3) := by decide +kernel
theorem dX11_copy_68 : decode cX11_copy 68 = .ok (.getfield 322, 3) := by decide +kernel
theorem dX11_copy_71 : decode cX11_copy 71 = .ok (.iload_n 1, 1) := by decide +kernel
theorem dX11_copy_72 : decode cX11_copy 72 = .ok (.iaload, 1) := by decide +kernel
theorem dX11_copy_73 : decode cX11_copy 73 = .ok (.bipush (-9), 2) := by decide +kernel
theorem dX11_copy_75 : decode cX11_copy 75 = .ok (.if_icmp .eq 18, 3) := by decide +kernel
theorem dX11_copy_78 : decode cX11_copy 78 = .ok (.aload_n 0, 1) := by decide +kernel
theorem dX11_copy_79 : decode cX11_copy 79 = .ok (.getfield 53, 3) := by decide +kernel
theorem dX11_copy_82 : decode cX11_copy 82 = .ok (.getfield 322, 3) := by decide +kernel
theorem dX11_copy_85 : decode cX11_copy 85 = .ok (.iload 4, 2) := by decide +kernel
theorem dX11_copy_87 : decode cX11_copy 87 = .ok (.iaload, 1) := by decide +kernel
theorem dX11_copy_88 : decode cX11_copy 88 = .ok (.bipush (-9), 2) := by decide +kernel
theorem dX11_copy_90 : decode cX11_copy 90 = .ok (.if_icmp .ne 9, 3) := by decide +kernel
theorem dX11_copy_93 : decode cX11_copy 93 = .ok (.aload_n 0, 1) := by decide +kernel
theorem dX11_copy_94 : decode cX11_copy 94 = .ok (.iconst 1, 1) := by decide +kernel
theorem dX11_copy_95 : decode cX11_copy 95 = .ok (.invokevirtual 128, 3) := by decide +kernel
theorem dX11_copy_98 : decode cX11_copy 98 = .ok (.ireturn, 1) := by decide +kernel
theorem dX11_copy_99 : decode cX11_copy 99 = .ok (.aload_n 0, 1) := by decide +kernel
theorem dX11_copy_100 : decode cX11_copy 100 = .ok (.getfield 53, 3) := by decide +kernel
theorem dX11_copy_103 : decode cX11_copy 103 = .ok (.iload_n 1, 1) := by decide +kernel
theorem dX11_copy_104 : decode cX11_copy 104 = .ok (.iload_n 3, 1) := by decide +kernel
theorem dX11_copy_105 : decode cX11_copy 105 = .ok (.iload 6, 2) := by decide +kernel
theorem dX11_copy_107 : decode cX11_copy 107 = .ok (.invokevirtual 325, 3) := by decide +kernel
theorem dX11_copy_110 : decode cX11_copy 110 = .ok (.ifCond .eq 19, 3) := by decide +kernel
theorem dX11_copy_113 : decode cX11_copy 113 = .ok (.aload_n 0, 1) := by decide +kernel
theorem dX11_copy_114 : decode cX11_copy 114 = .ok (.getfield 53, 3) := by decide +kernel
theorem dX11_copy_117 : decode cX11_copy 117 = .ok (.iload 4, 2) := by decide +kernel
theorem dX11_copy_119 : decode cX11_copy 119 = .ok (.iload 5, 2) := by decide +kernel
theorem dX11_copy_121 : decode cX11_copy 121 = .ok (.iload 6, 2) := by decide +kernel
theorem dX11_copy_123 : decode cX11_copy 123 = .ok (.invokevirtual 325, 3) := by decide +kernel
theorem dX11_copy_126 : decode cX11_copy 126 = .ok (.ifCond .ne 9, 3) := by decide +kernel
theorem dX11_copy_129 : decode cX11_copy 129 = .ok (.aload_n 0, 1) := by decide +kernel
theorem dX11_copy_130 : decode cX11_copy 130 = .ok (.iconst 2, 1) := by decide +kernel
theorem dX11_copy_131 : decode cX11_copy 131 = .ok (.invokevirtual 128, 3) := by decide +kernel
theorem dX11_copy_134 : decode cX11_copy 134 = .ok (.ireturn, 1) := by decide +kernel
theorem dX11_copy_135 : decode cX11_copy 135 = .ok (.aload_n 0, 1) := by decide +kernel
theorem dX11_copy_136 : decode cX11_copy 136 = .ok (.getfield 53, 3) := by decide +kernel
theorem dX11_copy_139 : decode cX11_copy 139 = .ok (.getfield 311, 3) := by decide +kernel
theorem dX11_copy_142 : decode cX11_copy 142 = .ok (.iload_n 1, 1) := by decide +kernel
theorem dX11_copy_143 : decode cX11_copy 143 = .ok (.bipush 12, 2) := by decide +kernel
theorem dX11_copy_145 : decode cX11_copy 145 = .ok (.imul, 1) := by decide +kernel
theorem dX11_copy_146 : decode cX11_copy 146 = .ok (.iload_n 3, 1) := by decide +kernel
theorem dX11_copy_147 : decode cX11_copy 147 = .ok (.iadd, 1) := by decide +kernel
theorem dX11_copy_148 : decode cX11_copy 148 = .ok (.aload_n 0, 1) := by decide +kernel
theorem dX11_copy_149 : decode cX11_copy 149 = .ok (.getfield 53, 3) := by decide +kernel
theorem dX11_copy_152 : decode cX11_copy 152 = .ok (.getfield 311, 3) := by decide +kernel
theorem dX11_copy_155 : decode cX11_copy 155 = .ok (.iload 4, 2) := by decide +kernel
theorem dX11_copy_157 : decode cX11_copy 157 = .ok (.bipush 12, 2) := by decide +kernel
theorem dX11_copy_159 : decode cX11_copy 159 = .ok (.imul, 1) := by decide +kernel
theorem dX11_copy_160 : decode cX11_copy 160 = .ok (.iload 5, 2) := by decide +kernel
theorem dX11_copy_162 : decode cX11_copy 162 = .ok (.iadd, 1) := by decide +kernel
theorem dX11_copy_163 : decode cX11_copy 163 = .ok (.iload 6, 2) := by decide +kernel
theorem dX11_copy_165 : decode cX11_copy 165 = .ok (.invokestatic 328, 3) := by decide +kernel
theorem dX11_copy_168 : decode cX11_copy 168 = .ok (.iconst 1, 1) := by decide +kernel
theorem dX11_copy_169 : decode cX11_copy 169 = .ok (.ireturn, 1) := by decide +kernel
theorem dX11_cast_0 : decode cX11_cast 0 = .ok (.iload_n 1, 1) := by decide +kernel
theorem dX11_cast_1 : decode cX11_cast 1 = .ok (.iconst 1, 1) := by decide +kernel
theorem dX11_cast_2 : decode cX11_cast 2 = .ok (.if_icmp .lt 14, 3) := by decide +kernel
theorem dX11_cast_5 : decode cX11_cast 5 = .ok (.iload_n 1, 1) := by decide +kernel
theorem dX11_cast_6 : decode cX11_cast 6 = .ok (.iconst 5, 1) := by decide +kernel
theorem dX11_cast_7 : decode cX11_cast 7 = .ok (.if_icmp .gt 9, 3) := by decide +kernel
theorem dX11_cast_10 : decode cX11_cast 10 = .ok (.iload_n 2, 1) := by decide +kernel
theorem dX11_cast_11 : decode cX11_cast 11 = .ok (.bipush 12, 2) := by decide +kernel
theorem dX11_cast_13 : decode cX11_cast 13 = .ok (.if_icmp .le 5, 3) := by decide +kernel
theorem dX11_cast_16 : decode cX11_cast 16 = .ok (.iconst (-1), 1) := by decide +kernel
theorem dX11_cast_17 : decode cX11_cast 17 = .ok (.ireturn, 1) := by decide +kernel
theorem dX11_cast_18 : decode cX11_cast 18 = .ok (.aload_n 0, 1) := by decide +kernel
theorem dX11_cast_19 : decode cX11_cast 19 = .ok (.getfield 60, 3) := by decide +kernel
theorem dX11_cast_22 : decode cX11_cast 22 = .ok (.getfield 334, 3) := by decide +kernel
theorem dX11_cast_25 : decode cX11_cast 25 = .ok (.bipush 10, 2) := by decide +kernel
theorem dX11_cast_27 : decode cX11_cast 27 = .ok (.if_icmp .lt 6, 3) := by decide +kernel
theorem dX11_cast_30 : decode cX11_cast 30 = .ok (.bipush (-2), 2) := by decide +kernel
theorem dX11_cast_32 : decode cX11_cast 32 = .ok (.ireturn, 1) := by decide +kernel
theorem dX11_cast_33 : decode cX11_cast 33 = .ok (.iload_n 2, 1) := by decide +kernel
theorem dX11_cast_34 : decode cX11_cast 34 = .ok (.ifCond .ge 9, 3) := by decide +kernel
theorem dX11_cast_37 : decode cX11_cast 37 = .ok (.aload_n 0, 1) := by decide +kernel
theorem dX11_cast_38 : decode cX11_cast 38 = .ok (.iconst 5, 1) := by decide +kernel
theorem dX11_cast_39 : decode cX11_cast 39 = .ok (.invokevirtual 128, 3) := by decide +kernel
theorem dX11_cast_42 : decode cX11_cast 42 = .ok (.ireturn, 1) := by decide +kernel
theorem dX11_cast_43 : decode cX11_cast 43 = .ok (.aload_n 0, 1) := by decide +kernel
theorem dX11_cast_44 : decode cX11_cast 44 = .ok (.getfield 60, 3) := by decide +kernel
theorem dX11_cast_47 : decode cX11_cast 47 = .ok (.iload_n 1, 1) := by decide +kernel
theorem dX11_cast_48 : decode cX11_cast 48 = .ok (.iload_n 2, 1) := by decide +kernel
theorem dX11_cast_49 : decode cX11_cast 49 = .ok (.invokevirtual 337, 3) := by decide +kernel
theorem dX11_cast_52 : decode cX11_cast 52 = .ok (.ireturn, 1) := by decide +kernel
theorem dX11_role_0 : decode cX11_role 0 = .ok (.iload_n 1, 1) := by decide +kernel
theorem dX11_role_1 : decode cX11_role 1 = .ok (.aload_n 0, 1) := by decide +kernel
theorem dX11_role_2 : decode cX11_role 2 = .ok (.getfield 60, 3) := by decide +kernel
theorem dX11_role_5 : decode cX11_role 5 = .ok (.getfield 334, 3) := by decide +kernel
theorem dX11_role_8 : decode cX11_role 8 = .ok (.invokestatic 91, 3) := by decide +kernel
theorem dX11_role_11 : decode cX11_role 11 = .ok (.ifCond .eq 20, 3) := by decide +kernel
theorem dX11_role_14 : decode cX11_role 14 = .ok (.iload_n 3, 1) := by decide +kernel
theorem dX11_role_15 : decode cX11_role 15 = .ok (.bipush (-9), 2) := by decide +kernel
theorem dX11_role_17 : decode cX11_role 17 = .ok (.if_icmp .eq 16, 3) := by decide +kernel
theorem dX11_role_20 : decode cX11_role 20 = .ok (.aload_n 0, 1) := by decide +kernel
theorem dX11_role_21 : decode cX11_role 21 = .ok (.getfield 10, 3) := by decide +kernel
theorem dX11_role_24 : decode cX11_role 24 = .ok (.iload_n 3, 1) := by decide +kernel
theorem dX11_role_25 : decode cX11_role 25 = .ok (.invokevirtual 109, 3) := by decide +kernel
theorem dX11_role_28 : decode cX11_role 28 = .ok (.ifCond .ne 5, 3) := by decide +kernel
theorem dX11_role_31 : decode cX11_role 31 = .ok (.iconst (-1), 1) := by decide +kernel
theorem dX11_role_32 : decode cX11_role 32 = .ok (.ireturn, 1) := by decide +kernel
theorem dX11_role_33 : decode cX11_role 33 = .ok (.iload_n 3, 1) := by decide +kernel
theorem dX11_role_34 : decode cX11_role 34 = .ok (.bipush (-9), 2) := by decide +kernel
theorem dX11_role_36 : decode cX11_role 36 = .ok (.if_icmp .eq 20, 3) := by decide +kernel
theorem dX11_role_39 : decode cX11_role 39 = .ok (.aload_n 0, 1) := by decide +kernel
theorem dX11_role_40 : decode cX11_role 40 = .ok (.getfield 10, 3) := by decide +kernel
theorem dX11_role_43 : decode cX11_role 43 = .ok (.iload_n 3, 1) := by decide +kernel
theorem dX11_role_44 : decode cX11_role 44 = .ok (.invokevirtual 125, 3) := by decide +kernel
theorem dX11_role_47 : decode cX11_role 47 = .ok (.ifCond .ne 9, 3) := by decide +kernel
theorem dX11_role_50 : decode cX11_role 50 = .ok (.aload_n 0, 1) := by decide +kernel
theorem dX11_role_51 : decode cX11_role 51 = .ok (.iconst 3, 1) := by decide +kernel
theorem dX11_role_52 : decode cX11_role 52 = .ok (.invokevirtual 128, 3) := by decide +kernel
theorem dX11_role_55 : decode cX11_role 55 = .ok (.ireturn, 1) := by decide +kernel
theorem dX11_role_56 : decode cX11_role 56 = .ok (.iload_n 2, 1) := by decide +kernel
theorem dX11_role_57 : decode cX11_role 57 = .ok (.aload_n 0, 1) := by decide +kernel
theorem dX11_role_58 : decode cX11_role 58 = .ok (.getfield 60, 3) := by decide +kernel
theorem dX11_role_61 : decode cX11_role 61 = .ok (.getfield 340, 3) := by decide +kernel
theorem dX11_role_64 : decode cX11_role 64 = .ok (.iload_n 1, 1) := by decide +kernel
theorem dX11_role_65 : decode cX11_role 65 = .ok (.iaload, 1) := by decide +kernel
theorem dX11_role_66 : decode cX11_role 66 = .ok (.invokestatic 91, 3) := by decide +kernel
theorem dX11_role_69 : decode cX11_role 69 = .ok (.ifCond .ne 9, 3) := by decide +kernel
theorem dX11_role_72 : decode cX11_role 72 = .ok (.aload_n 0, 1) := by decide +kernel
theorem dX11_role_73 : decode cX11_role 73 = .ok (.iconst 2, 1) := by decide +kernel
theorem dX11_role_74 : decode cX11_role 74 = .ok (.invokevirtual 128, 3) := by decide +kernel
theorem dX11_role_77 : decode cX11_role 77 = .ok (.ireturn, 1) := by decide +kernel
theorem dX11_role_78 : decode cX11_role 78 = .ok (.iload_n 3, 1) := by decide +kernel
theorem dX11_role_79 : decode cX11_role 79 = .ok (.bipush (-9), 2) := by decide +kernel
theorem dX11_role_81 : decode cX11_role 81 = .ok (.if_icmp .eq 30, 3) := by decide +kernel
theorem dX11_role_84 : decode cX11_role 84 = .ok (.aload_n 0, 1) := by decide +kernel
theorem dX11_role_85 : decode cX11_role 85 = .ok (.getfield 10, 3) := by decide +kernel
theorem dX11_role_88 : decode cX11_role 88 = .ok (.iload_n 3, 1) := by decide +kernel
theorem dX11_role_89 : decode cX11_role 89 = .ok (.aload_n 0, 1) := by decide +kernel
theorem dX11_role_90 : decode cX11_role 90 = .ok (.getfield 60, 3) := by decide +kernel
theorem dX11_role_93 : decode cX11_role 93 = .ok (.getfield 343, 3) := by decide +kernel
theorem dX11_role_96 : decode cX11_role 96 = .ok (.iload_n 1, 1) := by decide +kernel
theorem dX11_role_97 : decode cX11_role 97 = .ok (.iaload, 1) := by decide +kernel
theorem dX11_role_98 : decode cX11_role 98 = .ok (.invokevirtual 344, 3) := by decide +kernel
theorem dX11_role_101 : decode cX11_role 101 = .ok (.ifCond .ne 10, 3) := by decide +kernel
theorem dX11_role_104 : decode cX11_role 104 = .ok (.aload_n 0, 1) := by decide +kernel
theorem dX11_role_105 : decode cX11_role 105 = .ok (.bipush 6, 2) := by decide +kernel
theorem dX11_role_107 : decode cX11_role 107 = .ok (.invokevirtual 128, 3) := by decide +kernel
theorem dX11_role_110 : decode cX11_role 110 = .ok (.ireturn, 1) := by decide +kernel
theorem dX11_role_111 : decode cX11_role 111 = .ok (.aload_n 0, 1) := by decide +kernel
theorem dX11_role_112 : decode cX11_role 112 = .ok (.getfield 60, 3) := by decide +kernel
theorem dX11_role_115 : decode cX11_role 115 = .ok (.getfield 347, 3) := by decide +kernel
theorem dX11_role_118 : decode cX11_role 118 = .ok (.iload_n 1, 1) := by decide +kernel
theorem dX11_role_119 : decode cX11_role 119 = .ok (.bipush 12, 2) := by decide +kernel
theorem dX11_role_121 : decode cX11_role 121 = .ok (.imul, 1) := by decide +kernel
theorem dX11_role_122 : decode cX11_role 122 = .ok (.iload_n 2, 1) := by decide +kernel
theorem dX11_role_123 : decode cX11_role 123 = .ok (.iadd, 1) := by decide +kernel
theorem dX11_role_124 : decode cX11_role 124 = .ok (.iload_n 3, 1) := by decide +kernel
theorem dX11_role_125 : decode cX11_role 125 = .ok (.iastore, 1) := by decide +kernel
theorem dX11_role_126 : decode cX11_role 126 = .ok (.iconst 1, 1) := by decide +kernel
theorem dX11_role_127 : decode cX11_role 127 = .ok (.ireturn, 1) := by decide +kernel
theorem dX11_who_0 : decode cX11_who 0 = .ok (.iload_n 1, 1) := by decide +kernel
theorem dX11_who_1 : decode cX11_who 1 = .ok (.aload_n 0, 1) := by decide +kernel
theorem dX11_who_2 : decode cX11_who 2 = .ok (.getfield 60, 3) := by decide +kernel
theorem dX11_who_5 : decode cX11_who 5 = .ok (.getfield 334, 3) := by decide +kernel
theorem dX11_who_8 : decode cX11_who 8 = .ok (.invokestatic 91, 3) := by decide +kernel
theorem dX11_who_11 : decode cX11_who 11 = .ok (.ifCond .ne 5, 3) := by decide +kernel
theorem dX11_who_14 : decode cX11_who 14 = .ok (.iconst (-1), 1) := by decide +kernel
theorem dX11_who_15 : decode cX11_who 15 = .ok (.ireturn, 1) := by decide +kernel
theorem dX11_who_16 : decode cX11_who 16 = .ok (.iload_n 2, 1) := by decide +kernel
theorem dX11_who_17 : decode cX11_who 17 = .ok (.aload_n 0, 1) := by decide +kernel
theorem dX11_who_18 : decode cX11_who 18 = .ok (.getfield 60, 3) := by decide +kernel
theorem dX11_who_21 : decode cX11_who 21 = .ok (.getfield 340, 3) := by decide +kernel
theorem dX11_who_24 : decode cX11_who 24 = .ok (.iload_n 1, 1) := by decide +kernel
theorem dX11_who_25 : decode cX11_who 25 = .ok (.iaload, 1) := by decide +kernel
theorem dX11_who_26 : decode cX11_who 26 = .ok (.invokestatic 91, 3) := by decide +kernel
theorem dX11_who_29 : decode cX11_who 29 = .ok (.ifCond .ne 9, 3) := by decide +kernel
theorem dX11_who_32 : decode cX11_who 32 = .ok (.aload_n 0, 1) := by decide +kernel
theorem dX11_who_33 : decode cX11_who 33 = .ok (.iconst 2, 1) := by decide +kernel
theorem dX11_who_34 : decode cX11_who 34 = .ok (.invokevirtual 128, 3) := by decide +kernel
theorem dX11_who_37 : decode cX11_who 37 = .ok (.ireturn, 1) := by decide +kernel
theorem dX11_who_38 : decode cX11_who 38 = .ok (.aload_n 0, 1) := by decide +kernel
theorem dX11_who_39 : decode cX11_who 39 = .ok (.getfield 60, 3) := by decide +kernel
theorem dX11_who_42 : decode cX11_who 42 = .ok (.getfield 347, 3) := by decide +kernel
theorem dX11_who_45 : decode cX11_who 45 = .ok (.iload_n 1, 1) := by decide +kernel
theorem dX11_who_46 : decode cX11_who 46 = .ok (.bipush 12, 2) := by decide +kernel
theorem dX11_who_48 : decode cX11_who 48 = .ok (.imul, 1) := by decide +kernel
theorem dX11_who_49 : decode cX11_who 49 = .ok (.iload_n 2, 1) := by decide +kernel
theorem dX11_who_50 : decode cX11_who 50 = .ok (.iadd, 1) := by decide +kernel
theorem dX11_who_51 : decode cX11_who 51 = .ok (.iaload, 1) := by decide +kernel
theorem dX11_who_52 : decode cX11_who 52 = .ok (.istore_n 3, 1) := by decide +kernel
theorem dX11_who_53 : decode cX11_who 53 = .ok (.iload_n 3, 1) := by decide +kernel
theorem dX11_who_54 : decode cX11_who 54 = .ok (.bipush (-9), 2) := by decide +kernel
theorem dX11_who_56 : decode cX11_who 56 = .ok (.if_icmp .ne 11, 3) := by decide +kernel
theorem dX11_who_59 : decode cX11_who 59 = .ok (.aload_n 0, 1) := by decide +kernel
theorem dX11_who_60 : decode cX11_who 60 = .ok (.iconst 1, 1) := by decide +kernel
theorem dX11_who_61 : decode cX11_who 61 = .ok (.invokevirtual 128, 3) := by decide +kernel
theorem dX11_who_64 : decode cX11_who 64 = .ok (.goto 4, 3) := by decide +kernel
theorem dX11_who_67 : decode cX11_who 67 = .ok (.iload_n 3, 1) := by decide +kernel
theorem dX11_who_68 : decode cX11_who 68 = .ok (.ireturn, 1) := by decide +kernel
theorem dX11_count_0 : decode cX11_count 0 = .ok (.iload_n 1, 1) := by decide +kernel
theorem dX11_count_1 : decode cX11_count 1 = .ok (.tableswitch 154 0 7 #[47, 57, 67, 77, 87, 97, 107, 132], 47) := by decide +kernel
theorem dX11_count_48 : decode cX11_count 48 = .ok (.aload_n 0, 1) := by decide +kernel
theorem dX11_count_49 : decode cX11_count 49 = .ok (.getfield 10, 3) := by decide +kernel
theorem dX11_count_52 : decode cX11_count 52 = .ok (.getfield 84, 3) := by decide +kernel
theorem dX11_count_55 : decode cX11_count 55 = .ok (.goto 101, 3) := by decide +kernel
theorem dX11_count_58 : decode cX11_count 58 = .ok (.aload_n 0, 1) := by decide +kernel
theorem dX11_count_59 : decode cX11_count 59 = .ok (.getfield 10, 3) := by decide +kernel
theorem dX11_count_62 : decode cX11_count 62 = .ok (.getfield 102, 3) := by decide +kernel
theorem dX11_count_65 : decode cX11_count 65 = .ok (.goto 91, 3) := by decide +kernel
theorem dX11_count_68 : decode cX11_count 68 = .ok (.aload_n 0, 1) := by decide +kernel
theorem dX11_count_69 : decode cX11_count 69 = .ok (.getfield 21, 3) := by decide +kernel
theorem dX11_count_72 : decode cX11_count 72 = .ok (.getfield 191, 3) := by decide +kernel
theorem dX11_count_75 : decode cX11_count 75 = .ok (.goto 81, 3) := by decide +kernel
theorem dX11_count_78 : decode cX11_count 78 = .ok (.aload_n 0, 1) := by decide +kernel
theorem dX11_count_79 : decode cX11_count 79 = .ok (.getfield 21, 3) := by decide +kernel
theorem dX11_count_82 : decode cX11_count 82 = .ok (.getfield 168, 3) := by decide +kernel
theorem dX11_count_85 : decode cX11_count 85 = .ok (.goto 71, 3) := by decide +kernel
theorem dX11_count_88 : decode cX11_count 88 = .ok (.aload_n 0, 1) := by decide +kernel
theorem dX11_count_89 : decode cX11_count 89 = .ok (.getfield 60, 3) := by decide +kernel
theorem dX11_count_92 : decode cX11_count 92 = .ok (.getfield 334, 3) := by decide +kernel
theorem dX11_count_95 : decode cX11_count 95 = .ok (.goto 61, 3) := by decide +kernel
theorem dX11_count_98 : decode cX11_count 98 = .ok (.aload_n 0, 1) := by decide +kernel
theorem dX11_count_99 : decode cX11_count 99 = .ok (.getfield 46, 3) := by decide +kernel
theorem dX11_count_102 : decode cX11_count 102 = .ok (.getfield 254, 3) := by decide +kernel
theorem dX11_count_105 : decode cX11_count 105 = .ok (.goto 51, 3) := by decide +kernel
theorem dX11_count_108 : decode cX11_count 108 = .ok (.aload_n 0, 1) := by decide +kernel
theorem dX11_count_109 : decode cX11_count 109 = .ok (.getfield 46, 3) := by decide +kernel
theorem dX11_count_112 : decode cX11_count 112 = .ok (.getfield 257, 3) := by decide +kernel
theorem dX11_count_115 : decode cX11_count 115 = .ok (.ifCond .eq 13, 3) := by decide +kernel
theorem dX11_count_118 : decode cX11_count 118 = .ok (.aload_n 0, 1) := by decide +kernel
theorem dX11_count_119 : decode cX11_count 119 = .ok (.getfield 46, 3) := by decide +kernel
theorem dX11_count_122 : decode cX11_count 122 = .ok (.getfield 289, 3) := by decide +kernel
theorem dX11_count_125 : decode cX11_count 125 = .ok (.goto 31, 3) := by decide +kernel
theorem dX11_count_128 : decode cX11_count 128 = .ok (.bipush (-9), 2) := by decide +kernel
theorem dX11_count_130 : decode cX11_count 130 = .ok (.goto 26, 3) := by decide +kernel
theorem dX11_count_133 : decode cX11_count 133 = .ok (.aload_n 0, 1) := by decide +kernel
theorem dX11_count_134 : decode cX11_count 134 = .ok (.getfield 64, 3) := by decide +kernel
theorem dX11_count_137 : decode cX11_count 137 = .ok (.ifnonnull 8, 3) := by decide +kernel
theorem dX11_count_140 : decode cX11_count 140 = .ok (.bipush (-9), 2) := by decide +kernel
theorem dX11_count_142 : decode cX11_count 142 = .ok (.goto 14, 3) := by decide +kernel
theorem dX11_count_145 : decode cX11_count 145 = .ok (.aload_n 0, 1) := by decide +kernel
theorem dX11_count_146 : decode cX11_count 146 = .ok (.getfield 64, 3) := by decide +kernel
theorem dX11_count_149 : decode cX11_count 149 = .ok (.getfield 299, 3) := by decide +kernel
theorem dX11_count_152 : decode cX11_count 152 = .ok (.goto 4, 3) := by decide +kernel
theorem dX11_count_155 : decode cX11_count 155 = .ok (.iconst (-1), 1) := by decide +kernel
theorem dX11_count_156 : decode cX11_count 156 = .ok (.ireturn, 1) := by decide +kernel
theorem dX11_finding_0 : decode cX11_finding 0 = .ok (.aload_n 0, 1) := by decide +kernel
theorem dX11_finding_1 : decode cX11_finding 1 = .ok (.getfield 72, 3) := by decide +kernel
theorem dX11_finding_4 : decode cX11_finding 4 = .ok (.ireturn, 1) := by decide +kernel
theorem dX11_findings_0 : decode cX11_findings 0 = .ok (.iload_n 1, 1) := by decide +kernel
theorem dX11_findings_1 : decode cX11_findings 1 = .ok (.iconst 1, 1) := by decide +kernel
theorem dX11_findings_2 : decode cX11_findings 2 = .ok (.if_icmp .lt 9, 3) := by decide +kernel
theorem dX11_findings_5 : decode cX11_findings 5 = .ok (.iload_n 1, 1) := by decide +kernel
theorem dX11_findings_6 : decode cX11_findings 6 = .ok (.bipush 6, 2) := by decide +kernel
theorem dX11_findings_8 : decode cX11_findings 8 = .ok (.if_icmp .le 7, 3) := by decide +kernel
theorem dX11_findings_11 : decode cX11_findings 11 = .ok (.iconst (-1), 1) := by decide +kernel
theorem dX11_findings_12 : decode cX11_findings 12 = .ok (.goto 9, 3) := by decide +kernel
theorem dX11_findings_15 : decode cX11_findings 15 = .ok (.aload_n 0, 1) := by decide +kernel
theorem dX11_findings_16 : decode cX11_findings 16 = .ok (.getfield 68, 3) := by decide +kernel
theorem dX11_findings_19 : decode cX11_findings 19 = .ok (.iload_n 1, 1) := by decide +kernel
theorem dX11_findings_20 : decode cX11_findings 20 = .ok (.iaload, 1) := by decide +kernel
theorem dX11_findings_21 : decode cX11_findings 21 = .ok (.ireturn, 1) := by decide +kernel
theorem dX11_digest_0 : decode cX11_digest 0 = .ok (.aload_n 0, 1) := by decide +kernel
theorem dX11_digest_1 : decode cX11_digest 1 = .ok (.aload_n 0, 1) := by decide +kernel
theorem dX11_digest_2 : decode cX11_digest 2 = .ok (.aload_n 0, 1) := by decide +kernel
theorem dX11_digest_3 : decode cX11_digest 3 = .ok (.ldc2_w 350, 3) := by decide +kernel
theorem dX11_digest_6 : decode cX11_digest 6 = .ok (.invokevirtual 352, 3) := by decide +kernel
theorem dX11_digest_9 : decode cX11_digest 9 = .ok (.invokevirtual 356, 3) := by decide +kernel
theorem dX11_digest_12 : decode cX11_digest 12 = .ok (.invokevirtual 359, 3) := by decide +kernel
theorem dX11_digest_15 : decode cX11_digest 15 = .ok (.lreturn, 1) := by decide +kernel
theorem dX11_digestKinds_0 : decode cX11_digestKinds 0 = .ok (.lload_n 1, 1) := by decide +kernel
theorem dX11_digestKinds_1 : decode cX11_digestKinds 1 = .ok (.lstore_n 3, 1) := by decide +kernel
theorem dX11_digestKinds_2 : decode cX11_digestKinds 2 = .ok (.iconst 0, 1) := by decide +kernel
theorem dX11_digestKinds_3 : decode cX11_digestKinds 3 = .ok (.istore 5, 2) := by decide +kernel
theorem dX11_digestKinds_5 : decode cX11_digestKinds 5 = .ok (.iload 5, 2) := by decide +kernel
theorem dX11_digestKinds_7 : decode cX11_digestKinds 7 = .ok (.aload_n 0, 1) := by decide +kernel
theorem dX11_digestKinds_8 : decode cX11_digestKinds 8 = .ok (.getfield 10, 3) := by decide +kernel
theorem dX11_digestKinds_11 : decode cX11_digestKinds 11 = .ok (.getfield 84, 3) := by decide +kernel
theorem dX11_digestKinds_14 : decode cX11_digestKinds 14 = .ok (.if_icmp .ge 67, 3) := by decide +kernel
theorem dX11_digestKinds_17 : decode cX11_digestKinds 17 = .ok (.ldc2_w 362, 3) := by decide +kernel
theorem dX11_digestKinds_20 : decode cX11_digestKinds 20 = .ok (.lload_n 3, 1) := by decide +kernel
theorem dX11_digestKinds_21 : decode cX11_digestKinds 21 = .ok (.lmul, 1) := by decide +kernel
theorem dX11_digestKinds_22 : decode cX11_digestKinds 22 = .ok (.aload_n 0, 1) := by decide +kernel
theorem dX11_digestKinds_23 : decode cX11_digestKinds 23 = .ok (.getfield 10, 3) := by decide +kernel
theorem dX11_digestKinds_26 : decode cX11_digestKinds 26 = .ok (.getfield 364, 3) := by decide +kernel
theorem dX11_digestKinds_29 : decode cX11_digestKinds 29 = .ok (.iload 5, 2) := by decide +kernel
theorem dX11_digestKinds_31 : decode cX11_digestKinds 31 = .ok (.iaload, 1) := by decide +kernel
theorem dX11_digestKinds_32 : decode cX11_digestKinds 32 = .ok (.i2l, 1) := by decide +kernel
theorem dX11_digestKinds_33 : decode cX11_digestKinds 33 = .ok (.ladd, 1) := by decide +kernel
theorem dX11_digestKinds_34 : decode cX11_digestKinds 34 = .ok (.lstore_n 3, 1) := by decide +kernel
theorem dX11_digestKinds_35 : decode cX11_digestKinds 35 = .ok (.iconst 0, 1) := by decide +kernel
theorem dX11_digestKinds_36 : decode cX11_digestKinds 36 = .ok (.istore 6, 2) := by decide +kernel
theorem dX11_digestKinds_38 : decode cX11_digestKinds 38 = .ok (.iload 6, 2) := by decide +kernel
theorem dX11_digestKinds_40 : decode cX11_digestKinds 40 = .ok (.bipush 6, 2) := by decide +kernel
theorem dX11_digestKinds_42 : decode cX11_digestKinds 42 = .ok (.if_icmp .ge 33, 3) := by decide +kernel
theorem dX11_digestKinds_45 : decode cX11_digestKinds 45 = .ok (.ldc2_w 362, 3) := by decide +kernel
theorem dX11_digestKinds_48 : decode cX11_digestKinds 48 = .ok (.lload_n 3, 1) := by decide +kernel
theorem dX11_digestKinds_49 : decode cX11_digestKinds 49 = .ok (.lmul, 1) := by decide +kernel
theorem dX11_digestKinds_50 : decode cX11_digestKinds 50 = .ok (.aload_n 0, 1) := by decide +kernel
theorem dX11_digestKinds_51 : decode cX11_digestKinds 51 = .ok (.getfield 10, 3) := by decide +kernel
theorem dX11_digestKinds_54 : decode cX11_digestKinds 54 = .ok (.getfield 367, 3) := by decide +kernel
theorem dX11_digestKinds_57 : decode cX11_digestKinds 57 = .ok (.iload 5, 2) := by decide +kernel
theorem dX11_digestKinds_59 : decode cX11_digestKinds 59 = .ok (.bipush 6, 2) := by decide +kernel
theorem dX11_digestKinds_61 : decode cX11_digestKinds 61 = .ok (.imul, 1) := by decide +kernel
theorem dX11_digestKinds_62 : decode cX11_digestKinds 62 = .ok (.iload 6, 2) := by decide +kernel
theorem dX11_digestKinds_64 : decode cX11_digestKinds 64 = .ok (.iadd, 1) := by decide +kernel
theorem dX11_digestKinds_65 : decode cX11_digestKinds 65 = .ok (.iaload, 1) := by decide +kernel
theorem dX11_digestKinds_66 : decode cX11_digestKinds 66 = .ok (.i2l, 1) := by decide +kernel
theorem dX11_digestKinds_67 : decode cX11_digestKinds 67 = .ok (.ladd, 1) := by decide +kernel
theorem dX11_digestKinds_68 : decode cX11_digestKinds 68 = .ok (.lstore_n 3, 1) := by decide +kernel
theorem dX11_digestKinds_69 : decode cX11_digestKinds 69 = .ok (.iinc 6 1, 3) := by decide +kernel
theorem dX11_digestKinds_72 : decode cX11_digestKinds 72 = .ok (.goto (-34), 3) := by decide +kernel
theorem dX11_digestKinds_75 : decode cX11_digestKinds 75 = .ok (.iinc 5 1, 3) := by decide +kernel
theorem dX11_digestKinds_78 : decode cX11_digestKinds 78 = .ok (.goto (-73), 3) := by decide +kernel
theorem dX11_digestKinds_81 : decode cX11_digestKinds 81 = .ok (.lload_n 3, 1) := by decide +kernel
theorem dX11_digestKinds_82 : decode cX11_digestKinds 82 = .ok (.lreturn, 1) := by decide +kernel
theorem dX11_digestObjects_0 : decode cX11_digestObjects 0 = .ok (.lload_n 1, 1) := by decide +kernel
theorem dX11_digestObjects_1 : decode cX11_digestObjects 1 = .ok (.lstore_n 3, 1) := by decide +kernel
theorem dX11_digestObjects_2 : decode cX11_digestObjects 2 = .ok (.iconst 0, 1) := by decide +kernel
theorem dX11_digestObjects_3 : decode cX11_digestObjects 3 = .ok (.istore 5, 2) := by decide +kernel
theorem dX11_digestObjects_5 : decode cX11_digestObjects 5 = .ok (.iload 5, 2) := by decide +kernel
theorem dX11_digestObjects_7 : decode cX11_digestObjects 7 = .ok (.aload_n 0, 1) := by decide +kernel
theorem dX11_digestObjects_8 : decode cX11_digestObjects 8 = .ok (.getfield 10, 3) := by decide +kernel
theorem dX11_digestObjects_11 : decode cX11_digestObjects 11 = .ok (.getfield 102, 3) := by decide +kernel
theorem dX11_digestObjects_14 : decode cX11_digestObjects 14 = .ok (.if_icmp .ge 130, 3) := by decide +kernel
theorem dX11_digestObjects_17 : decode cX11_digestObjects 17 = .ok (.ldc2_w 362, 3) := by decide +kernel
theorem dX11_digestObjects_20 : decode cX11_digestObjects 20 = .ok (.lload_n 3, 1) := by decide +kernel
theorem dX11_digestObjects_21 : decode cX11_digestObjects 21 = .ok (.lmul, 1) := by decide +kernel
theorem dX11_digestObjects_22 : decode cX11_digestObjects 22 = .ok (.aload_n 0, 1) := by decide +kernel
theorem dX11_digestObjects_23 : decode cX11_digestObjects 23 = .ok (.getfield 10, 3) := by decide +kernel
theorem dX11_digestObjects_26 : decode cX11_digestObjects 26 = .ok (.getfield 112, 3) := by decide +kernel
theorem dX11_digestObjects_29 : decode cX11_digestObjects 29 = .ok (.iload 5, 2) := by decide +kernel
theorem dX11_digestObjects_31 : decode cX11_digestObjects 31 = .ok (.iaload, 1) := by decide +kernel
theorem dX11_digestObjects_32 : decode cX11_digestObjects 32 = .ok (.i2l, 1) := by decide +kernel
theorem dX11_digestObjects_33 : decode cX11_digestObjects 33 = .ok (.ladd, 1) := by decide +kernel
theorem dX11_digestObjects_34 : decode cX11_digestObjects 34 = .ok (.lstore_n 3, 1) := by decide +kernel
theorem dX11_digestObjects_35 : decode cX11_digestObjects 35 = .ok (.ldc2_w 362, 3) := by decide +kernel
theorem dX11_digestObjects_38 : decode cX11_digestObjects 38 = .ok (.lload_n 3, 1) := by decide +kernel
theorem dX11_digestObjects_39 : decode cX11_digestObjects 39 = .ok (.lmul, 1) := by decide +kernel
theorem dX11_digestObjects_40 : decode cX11_digestObjects 40 = .ok (.aload_n 0, 1) := by decide +kernel
theorem dX11_digestObjects_41 : decode cX11_digestObjects 41 = .ok (.getfield 10, 3) := by decide +kernel
theorem dX11_digestObjects_44 : decode cX11_digestObjects 44 = .ok (.getfield 370, 3) := by decide +kernel
theorem dX11_digestObjects_47 : decode cX11_digestObjects 47 = .ok (.iload 5, 2) := by decide +kernel
theorem dX11_digestObjects_49 : decode cX11_digestObjects 49 = .ok (.iaload, 1) := by decide +kernel
theorem dX11_digestObjects_50 : decode cX11_digestObjects 50 = .ok (.i2l, 1) := by decide +kernel
theorem dX11_digestObjects_51 : decode cX11_digestObjects 51 = .ok (.ladd, 1) := by decide +kernel
theorem dX11_digestObjects_52 : decode cX11_digestObjects 52 = .ok (.lstore_n 3, 1) := by decide +kernel
theorem dX11_digestObjects_53 : decode cX11_digestObjects 53 = .ok (.ldc2_w 362, 3) := by decide +kernel
theorem dX11_digestObjects_56 : decode cX11_digestObjects 56 = .ok (.lload_n 3, 1) := by decide +kernel
theorem dX11_digestObjects_57 : decode cX11_digestObjects 57 = .ok (.lmul, 1) := by decide +kernel
theorem dX11_digestObjects_58 : decode cX11_digestObjects 58 = .ok (.aload_n 0, 1) := by decide +kernel
theorem dX11_digestObjects_59 : decode cX11_digestObjects 59 = .ok (.getfield 21, 3) := by decide +kernel
theorem dX11_digestObjects_62 : decode cX11_digestObjects 62 = .ok (.getfield 203, 3) := by decide +kernel
theorem dX11_digestObjects_65 : decode cX11_digestObjects 65 = .ok (.iload 5, 2) := by decide +kernel
theorem dX11_digestObjects_67 : decode cX11_digestObjects 67 = .ok (.invokevirtual 206, 3) := by decide +kernel
theorem dX11_digestObjects_70 : decode cX11_digestObjects 70 = .ok (.i2l, 1) := by decide +kernel
theorem dX11_digestObjects_71 : decode cX11_digestObjects 71 = .ok (.ladd, 1) := by decide +kernel
theorem dX11_digestObjects_72 : decode cX11_digestObjects 72 = .ok (.lstore_n 3, 1) := by decide +kernel
theorem dX11_digestObjects_73 : decode cX11_digestObjects 73 = .ok (.ldc2_w 362, 3) := by decide +kernel
theorem dX11_digestObjects_76 : decode cX11_digestObjects 76 = .ok (.lload_n 3, 1) := by decide +kernel
theorem dX11_digestObjects_77 : decode cX11_digestObjects 77 = .ok (.lmul, 1) := by decide +kernel
theorem dX11_digestObjects_78 : decode cX11_digestObjects 78 = .ok (.aload_n 0, 1) := by decide +kernel
theorem dX11_digestObjects_79 : decode cX11_digestObjects 79 = .ok (.getfield 21, 3) := by decide +kernel
theorem dX11_digestObjects_82 : decode cX11_digestObjects 82 = .ok (.getfield 203, 3) := by decide +kernel
theorem dX11_digestObjects_85 : decode cX11_digestObjects 85 = .ok (.iload 5, 2) := by decide +kernel
theorem dX11_digestObjects_87 : decode cX11_digestObjects 87 = .ok (.invokevirtual 211, 3) := by decide +kernel
theorem dX11_digestObjects_90 : decode cX11_digestObjects 90 = .ok (.i2l, 1) := by decide +kernel
theorem dX11_digestObjects_91 : decode cX11_digestObjects 91 = .ok (.ladd, 1) := by decide +kernel
theorem dX11_digestObjects_92 : decode cX11_digestObjects 92 = .ok (.lstore_n 3, 1) := by decide +kernel
theorem dX11_digestObjects_93 : decode cX11_digestObjects 93 = .ok (.iconst 0, 1) := by decide +kernel
theorem dX11_digestObjects_94 : decode cX11_digestObjects 94 = .ok (.istore 6, 2) := by decide +kernel
theorem dX11_digestObjects_96 : decode cX11_digestObjects 96 = .ok (.aload_n 0, 1) := by decide +kernel
theorem dX11_digestObjects_97 : decode cX11_digestObjects 97 = .ok (.getfield 46, 3) := by decide +kernel
theorem dX11_digestObjects_100 : decode cX11_digestObjects 100 = .ok (.getfield 257, 3) := by decide +kernel
theorem dX11_digestObjects_103 : decode cX11_digestObjects 103 = .ok (.ifCond .eq 35, 3) := by decide +kernel
theorem dX11_digestObjects_106 : decode cX11_digestObjects 106 = .ok (.iload 6, 2) := by decide +kernel
theorem dX11_digestObjects_108 : decode cX11_digestObjects 108 = .ok (.bipush 6, 2) := by decide +kernel
theorem dX11_digestObjects_110 : decode cX11_digestObjects 110 = .ok (.if_icmp .ge 28, 3) := by decide +kernel
theorem dX11_digestObjects_113 : decode cX11_digestObjects 113 = .ok (.ldc2_w 362, 3) := by decide +kernel
theorem dX11_digestObjects_116 : decode cX11_digestObjects 116 = .ok (.lload_n 3, 1) := by decide +kernel
theorem dX11_digestObjects_117 : decode cX11_digestObjects 117 = .ok (.lmul, 1) := by decide +kernel
theorem dX11_digestObjects_118 : decode cX11_digestObjects 118 = .ok (.aload_n 0, 1) := by decide +kernel
theorem dX11_digestObjects_119 : decode cX11_digestObjects 119 = .ok (.getfield 46, 3) := by decide +kernel
theorem dX11_digestObjects_122 : decode cX11_digestObjects 122 = .ok (.iload 5, 2) := by decide +kernel
theorem dX11_digestObjects_124 : decode cX11_digestObjects 124 = .ok (.iload 6, 2) := by decide +kernel
theorem dX11_digestObjects_126 : decode cX11_digestObjects 126 = .ok (.invokevirtual 267, 3) := by decide +kernel
theorem dX11_digestObjects_129 : decode cX11_digestObjects 129 = .ok (.i2l, 1) := by decide +kernel
theorem dX11_digestObjects_130 : decode cX11_digestObjects 130 = .ok (.ladd, 1) := by decide +kernel
theorem dX11_digestObjects_131 : decode cX11_digestObjects 131 = .ok (.lstore_n 3, 1) := by decide +kernel
theorem dX11_digestObjects_132 : decode cX11_digestObjects 132 = .ok (.iinc 6 1, 3) := by decide +kernel
theorem dX11_digestObjects_135 : decode cX11_digestObjects 135 = .ok (.goto (-39), 3) := by decide +kernel
theorem dX11_digestObjects_138 : decode cX11_digestObjects 138 = .ok (.iinc 5 1, 3) := by decide +kernel
theorem dX11_digestObjects_141 : decode cX11_digestObjects 141 = .ok (.goto (-136), 3) := by decide +kernel
theorem dX11_digestObjects_144 : decode cX11_digestObjects 144 = .ok (.lload_n 3, 1) := by decide +kernel
theorem dX11_digestObjects_145 : decode cX11_digestObjects 145 = .ok (.lreturn, 1) := by decide +kernel
theorem dX11_digestSentences_0 : decode cX11_digestSentences 0 = .ok (.lload_n 1, 1) := by decide +kernel
theorem dX11_digestSentences_1 : decode cX11_digestSentences 1 = .ok (.lstore_n 3, 1) := by decide +kernel
theorem dX11_digestSentences_2 : decode cX11_digestSentences 2 = .ok (.iconst 0, 1) := by decide +kernel
theorem dX11_digestSentences_3 : decode cX11_digestSentences 3 = .ok (.istore 5, 2) := by decide +kernel
theorem dX11_digestSentences_5 : decode cX11_digestSentences 5 = .ok (.iload 5, 2) := by decide +kernel
theorem dX11_digestSentences_7 : decode cX11_digestSentences 7 = .ok (.aload_n 0, 1) := by decide +kernel
theorem dX11_digestSentences_8 : decode cX11_digestSentences 8 = .ok (.getfield 21, 3) := by decide +kernel
theorem dX11_digestSentences_11 : decode cX11_digestSentences 11 = .ok (.getfield 168, 3) := by decide +kernel
theorem dX11_digestSentences_14 : decode cX11_digestSentences 14 = .ok (.if_icmp .ge 43, 3) := by decide +kernel
theorem dX11_digestSentences_17 : decode cX11_digestSentences 17 = .ok (.iconst 0, 1) := by decide +kernel
theorem dX11_digestSentences_18 : decode cX11_digestSentences 18 = .ok (.istore 6, 2) := by decide +kernel
theorem dX11_digestSentences_20 : decode cX11_digestSentences 20 = .ok (.iload 6, 2) := by decide +kernel
theorem dX11_digestSentences_22 : decode cX11_digestSentences 22 = .ok (.iconst 5, 1) := by decide +kernel
theorem dX11_digestSentences_23 : decode cX11_digestSentences 23 = .ok (.if_icmp .ge 28, 3) := by decide +kernel
theorem dX11_digestSentences_26 : decode cX11_digestSentences 26 = .ok (.ldc2_w 362, 3) := by decide +kernel
theorem dX11_digestSentences_29 : decode cX11_digestSentences 29 = .ok (.lload_n 3, 1) := by decide +kernel
theorem dX11_digestSentences_30 : decode cX11_digestSentences 30 = .ok (.lmul, 1) := by decide +kernel
theorem dX11_digestSentences_31 : decode cX11_digestSentences 31 = .ok (.aload_n 0, 1) := by decide +kernel
theorem dX11_digestSentences_32 : decode cX11_digestSentences 32 = .ok (.getfield 21, 3) := by decide +kernel
theorem dX11_digestSentences_35 : decode cX11_digestSentences 35 = .ok (.iload 5, 2) := by decide +kernel
theorem dX11_digestSentences_37 : decode cX11_digestSentences 37 = .ok (.iload 6, 2) := by decide +kernel
theorem dX11_digestSentences_39 : decode cX11_digestSentences 39 = .ok (.invokevirtual 200, 3) := by decide +kernel
theorem dX11_digestSentences_42 : decode cX11_digestSentences 42 = .ok (.i2l, 1) := by decide +kernel
theorem dX11_digestSentences_43 : decode cX11_digestSentences 43 = .ok (.ladd, 1) := by decide +kernel
theorem dX11_digestSentences_44 : decode cX11_digestSentences 44 = .ok (.lstore_n 3, 1) := by decide +kernel
theorem dX11_digestSentences_45 : decode cX11_digestSentences 45 = .ok (.iinc 6 1, 3) := by decide +kernel
theorem dX11_digestSentences_48 : decode cX11_digestSentences 48 = .ok (.goto (-28), 3) := by decide +kernel
theorem dX11_digestSentences_51 : decode cX11_digestSentences 51 = .ok (.iinc 5 1, 3) := by decide +kernel
theorem dX11_digestSentences_54 : decode cX11_digestSentences 54 = .ok (.goto (-49), 3) := by decide +kernel
theorem dX11_digestSentences_57 : decode cX11_digestSentences 57 = .ok (.lload_n 3, 1) := by decide +kernel
theorem dX11_digestSentences_58 : decode cX11_digestSentences 58 = .ok (.lreturn, 1) := by decide +kernel
theorem dX11_answerFinding_0 : decode cX11_answerFinding 0 = .ok (.aload_n 0, 1) := by decide +kernel
theorem dX11_answerFinding_1 : decode cX11_answerFinding 1 = .ok (.iload_n 1, 1) := by decide +kernel
theorem dX11_answerFinding_2 : decode cX11_answerFinding 2 = .ok (.putfield 72, 3) := by decide +kernel
theorem dX11_answerFinding_5 : decode cX11_answerFinding 5 = .ok (.aload_n 0, 1) := by decide +kernel
theorem dX11_answerFinding_6 : decode cX11_answerFinding 6 = .ok (.getfield 68, 3) := by decide +kernel
theorem dX11_answerFinding_9 : decode cX11_answerFinding 9 = .ok (.iload_n 1, 1) := by decide +kernel
theorem dX11_answerFinding_10 : decode cX11_answerFinding 10 = .ok (.dup2, 1) := by decide +kernel
theorem dX11_answerFinding_11 : decode cX11_answerFinding 11 = .ok (.iaload, 1) := by decide +kernel
theorem dX11_answerFinding_12 : decode cX11_answerFinding 12 = .ok (.iconst 1, 1) := by decide +kernel
theorem dX11_answerFinding_13 : decode cX11_answerFinding 13 = .ok (.iadd, 1) := by decide +kernel
theorem dX11_answerFinding_14 : decode cX11_answerFinding 14 = .ok (.iastore, 1) := by decide +kernel
theorem dX11_answerFinding_15 : decode cX11_answerFinding 15 = .ok (.bipush (-3), 2) := by decide +kernel
theorem dX11_answerFinding_17 : decode cX11_answerFinding 17 = .ok (.ireturn, 1) := by decide +kernel
theorem dX11_places_0 : decode cX11_places 0 = .ok (.aload_n 0, 1) := by decide +kernel
theorem dX11_places_1 : decode cX11_places 1 = .ok (.getfield 46, 3) := by decide +kernel
theorem dX11_places_4 : decode cX11_places 4 = .ok (.getfield 257, 3) := by decide +kernel
theorem dX11_places_7 : decode cX11_places 7 = .ok (.ifCond .eq 13, 3) := by decide +kernel
theorem dX11_places_10 : decode cX11_places 10 = .ok (.aload_n 0, 1) := by decide +kernel
theorem dX11_places_11 : decode cX11_places 11 = .ok (.getfield 46, 3) := by decide +kernel
theorem dX11_places_14 : decode cX11_places 14 = .ok (.getfield 286, 3) := by decide +kernel
theorem dX11_places_17 : decode cX11_places 17 = .ok (.goto 10, 3) := by decide +kernel
theorem dX11_places_20 : decode cX11_places 20 = .ok (.aload_n 0, 1) := by decide +kernel
theorem dX11_places_21 : decode cX11_places 21 = .ok (.getfield 21, 3) := by decide +kernel
theorem dX11_places_24 : decode cX11_places 24 = .ok (.getfield 203, 3) := by decide +kernel
theorem dX11_places_27 : decode cX11_places 27 = .ok (.areturn, 1) := by decide +kernel
theorem dX11_refuseRooms_0 : decode cX11_refuseRooms 0 = .ok (.aload_n 0, 1) := by decide +kernel
theorem dX11_refuseRooms_1 : decode cX11_refuseRooms 1 = .ok (.getfield 10, 3) := by decide +kernel
theorem dX11_refuseRooms_4 : decode cX11_refuseRooms 4 = .ok (.iload_n 1, 1) := by decide +kernel
theorem dX11_refuseRooms_5 : decode cX11_refuseRooms 5 = .ok (.invokevirtual 109, 3) := by decide +kernel
theorem dX11_refuseRooms_8 : decode cX11_refuseRooms 8 = .ok (.ifCond .eq 14, 3) := by decide +kernel
theorem dX11_refuseRooms_11 : decode cX11_refuseRooms 11 = .ok (.aload_n 0, 1) := by decide +kernel
theorem dX11_refuseRooms_12 : decode cX11_refuseRooms 12 = .ok (.getfield 10, 3) := by decide +kernel
theorem dX11_refuseRooms_15 : decode cX11_refuseRooms 15 = .ok (.iload_n 2, 1) := by decide +kernel
theorem dX11_refuseRooms_16 : decode cX11_refuseRooms 16 = .ok (.invokevirtual 109, 3) := by decide +kernel
theorem dX11_refuseRooms_19 : decode cX11_refuseRooms 19 = .ok (.ifCond .ne 5, 3) := by decide +kernel
theorem dX11_refuseRooms_22 : decode cX11_refuseRooms 22 = .ok (.iconst (-1), 1) := by decide +kernel
theorem dX11_refuseRooms_23 : decode cX11_refuseRooms 23 = .ok (.ireturn, 1) := by decide +kernel
theorem dX11_refuseRooms_24 : decode cX11_refuseRooms 24 = .ok (.aload_n 0, 1) := by decide +kernel
theorem dX11_refuseRooms_25 : decode cX11_refuseRooms 25 = .ok (.getfield 10, 3) := by decide +kernel
theorem dX11_refuseRooms_28 : decode cX11_refuseRooms 28 = .ok (.iload_n 1, 1) := by decide +kernel
theorem dX11_refuseRooms_29 : decode cX11_refuseRooms 29 = .ok (.invokevirtual 125, 3) := by decide +kernel
theorem dX11_refuseRooms_32 : decode cX11_refuseRooms 32 = .ok (.ifCond .ne 14, 3) := by decide +kernel
theorem dX11_refuseRooms_35 : decode cX11_refuseRooms 35 = .ok (.aload_n 0, 1) := by decide +kernel
theorem dX11_refuseRooms_36 : decode cX11_refuseRooms 36 = .ok (.getfield 10, 3) := by decide +kernel
theorem dX11_refuseRooms_39 : decode cX11_refuseRooms 39 = .ok (.iload_n 2, 1) := by decide +kernel
theorem dX11_refuseRooms_40 : decode cX11_refuseRooms 40 = .ok (.invokevirtual 125, 3) := by decide +kernel
theorem dX11_refuseRooms_43 : decode cX11_refuseRooms 43 = .ok (.ifCond .eq 9, 3) := by decide +kernel
theorem dX11_refuseRooms_46 : decode cX11_refuseRooms 46 = .ok (.aload_n 0, 1) := by decide +kernel
theorem dX11_refuseRooms_47 : decode cX11_refuseRooms 47 = .ok (.iconst 3, 1) := by decide +kernel
theorem dX11_refuseRooms_48 : decode cX11_refuseRooms 48 = .ok (.invokevirtual 128, 3) := by decide +kernel
theorem dX11_refuseRooms_51 : decode cX11_refuseRooms 51 = .ok (.ireturn, 1) := by decide +kernel
theorem dX11_refuseRooms_52 : decode cX11_refuseRooms 52 = .ok (.iconst 0, 1) := by decide +kernel
theorem dX11_refuseRooms_53 : decode cX11_refuseRooms 53 = .ok (.ireturn, 1) := by decide +kernel
theorem dX11_refuseItem_0 : decode cX11_refuseItem 0 = .ok (.aload_n 0, 1) := by decide +kernel
theorem dX11_refuseItem_1 : decode cX11_refuseItem 1 = .ok (.getfield 10, 3) := by decide +kernel
theorem dX11_refuseItem_4 : decode cX11_refuseItem 4 = .ok (.iload_n 1, 1) := by decide +kernel
theorem dX11_refuseItem_5 : decode cX11_refuseItem 5 = .ok (.invokevirtual 109, 3) := by decide +kernel
theorem dX11_refuseItem_8 : decode cX11_refuseItem 8 = .ok (.ifCond .eq 11, 3) := by decide +kernel
theorem dX11_refuseItem_11 : decode cX11_refuseItem 11 = .ok (.iload_n 2, 1) := by decide +kernel
theorem dX11_refuseItem_12 : decode cX11_refuseItem 12 = .ok (.iconst 4, 1) := by decide +kernel
theorem dX11_refuseItem_13 : decode cX11_refuseItem 13 = .ok (.invokestatic 91, 3) := by decide +kernel
theorem dX11_refuseItem_16 : decode cX11_refuseItem 16 = .ok (.ifCond .ne 5, 3) := by decide +kernel
theorem dX11_refuseItem_19 : decode cX11_refuseItem 19 = .ok (.iconst (-1), 1) := by decide +kernel
theorem dX11_refuseItem_20 : decode cX11_refuseItem 20 = .ok (.ireturn, 1) := by decide +kernel
theorem dX11_refuseItem_21 : decode cX11_refuseItem 21 = .ok (.aload_n 0, 1) := by decide +kernel
theorem dX11_refuseItem_22 : decode cX11_refuseItem 22 = .ok (.getfield 53, 3) := by decide +kernel
theorem dX11_refuseItem_25 : decode cX11_refuseItem 25 = .ok (.getfield 322, 3) := by decide +kernel
theorem dX11_refuseItem_28 : decode cX11_refuseItem 28 = .ok (.iload_n 1, 1) := by decide +kernel
theorem dX11_refuseItem_29 : decode cX11_refuseItem 29 = .ok (.iaload, 1) := by decide +kernel
theorem dX11_refuseItem_30 : decode cX11_refuseItem 30 = .ok (.bipush (-9), 2) := by decide +kernel
theorem dX11_refuseItem_32 : decode cX11_refuseItem 32 = .ok (.if_icmp .ne 9, 3) := by decide +kernel
theorem dX11_refuseItem_35 : decode cX11_refuseItem 35 = .ok (.aload_n 0, 1) := by decide +kernel
theorem dX11_refuseItem_36 : decode cX11_refuseItem 36 = .ok (.iconst 1, 1) := by decide +kernel
theorem dX11_refuseItem_37 : decode cX11_refuseItem 37 = .ok (.invokevirtual 128, 3) := by decide +kernel
theorem dX11_refuseItem_40 : decode cX11_refuseItem 40 = .ok (.ireturn, 1) := by decide +kernel
theorem dX11_refuseItem_41 : decode cX11_refuseItem 41 = .ok (.aload_n 0, 1) := by decide +kernel
theorem dX11_refuseItem_42 : decode cX11_refuseItem 42 = .ok (.getfield 53, 3) := by decide +kernel
theorem dX11_refuseItem_45 : decode cX11_refuseItem 45 = .ok (.iload_n 1, 1) := by decide +kernel
theorem dX11_refuseItem_46 : decode cX11_refuseItem 46 = .ok (.iload_n 2, 1) := by decide +kernel
theorem dX11_refuseItem_47 : decode cX11_refuseItem 47 = .ok (.invokevirtual 319, 3) := by decide +kernel
theorem dX11_refuseItem_50 : decode cX11_refuseItem 50 = .ok (.ifCond .eq 9, 3) := by decide +kernel
theorem dX11_refuseItem_53 : decode cX11_refuseItem 53 = .ok (.aload_n 0, 1) := by decide +kernel
theorem dX11_refuseItem_54 : decode cX11_refuseItem 54 = .ok (.iconst 3, 1) := by decide +kernel
theorem dX11_refuseItem_55 : decode cX11_refuseItem 55 = .ok (.invokevirtual 128, 3) := by decide +kernel
theorem dX11_refuseItem_58 : decode cX11_refuseItem 58 = .ok (.ireturn, 1) := by decide +kernel
theorem dX11_refuseItem_59 : decode cX11_refuseItem 59 = .ok (.iload_n 3, 1) := by decide +kernel
theorem dX11_refuseItem_60 : decode cX11_refuseItem 60 = .ok (.aload_n 0, 1) := by decide +kernel
theorem dX11_refuseItem_61 : decode cX11_refuseItem 61 = .ok (.getfield 53, 3) := by decide +kernel
theorem dX11_refuseItem_64 : decode cX11_refuseItem 64 = .ok (.getfield 373, 3) := by decide +kernel
theorem dX11_refuseItem_67 : decode cX11_refuseItem 67 = .ok (.iload_n 1, 1) := by decide +kernel
theorem dX11_refuseItem_68 : decode cX11_refuseItem 68 = .ok (.iaload, 1) := by decide +kernel
theorem dX11_refuseItem_69 : decode cX11_refuseItem 69 = .ok (.invokestatic 91, 3) := by decide +kernel
theorem dX11_refuseItem_72 : decode cX11_refuseItem 72 = .ok (.ifCond .eq 7, 3) := by decide +kernel
theorem dX11_refuseItem_75 : decode cX11_refuseItem 75 = .ok (.iconst 0, 1) := by decide +kernel
theorem dX11_refuseItem_76 : decode cX11_refuseItem 76 = .ok (.goto 8, 3) := by decide +kernel
theorem dX11_refuseItem_79 : decode cX11_refuseItem 79 = .ok (.aload_n 0, 1) := by decide +kernel
theorem dX11_refuseItem_80 : decode cX11_refuseItem 80 = .ok (.iconst 2, 1) := by decide +kernel
theorem dX11_refuseItem_81 : decode cX11_refuseItem 81 = .ok (.invokevirtual 128, 3) := by decide +kernel
theorem dX11_refuseItem_84 : decode cX11_refuseItem 84 = .ok (.ireturn, 1) := by decide +kernel
theorem dX11_isBelow_0 : decode cX11_isBelow 0 = .ok (.iload_n 0, 1) := by decide +kernel
theorem dX11_isBelow_1 : decode cX11_isBelow 1 = .ok (.ifCond .lt 12, 3) := by decide +kernel
theorem dX11_isBelow_4 : decode cX11_isBelow 4 = .ok (.iload_n 0, 1) := by decide +kernel
theorem dX11_isBelow_5 : decode cX11_isBelow 5 = .ok (.iload_n 1, 1) := by decide +kernel
theorem dX11_isBelow_6 : decode cX11_isBelow 6 = .ok (.if_icmp .ge 7, 3) := by decide +kernel
theorem dX11_isBelow_9 : decode cX11_isBelow 9 = .ok (.iconst 1, 1) := by decide +kernel
theorem dX11_isBelow_10 : decode cX11_isBelow 10 = .ok (.goto 4, 3) := by decide +kernel
theorem dX11_isBelow_13 : decode cX11_isBelow 13 = .ok (.iconst 0, 1) := by decide +kernel
theorem dX11_isBelow_14 : decode cX11_isBelow 14 = .ok (.ireturn, 1) := by decide +kernel
theorem dX11_oneIf_0 : decode cX11_oneIf 0 = .ok (.iload_n 0, 1) := by decide +kernel
theorem dX11_oneIf_1 : decode cX11_oneIf 1 = .ok (.ifCond .eq 7, 3) := by decide +kernel
theorem dX11_oneIf_4 : decode cX11_oneIf 4 = .ok (.iconst 1, 1) := by decide +kernel
theorem dX11_oneIf_5 : decode cX11_oneIf 5 = .ok (.goto 4, 3) := by decide +kernel
theorem dX11_oneIf_8 : decode cX11_oneIf 8 = .ok (.iconst 0, 1) := by decide +kernel
theorem dX11_oneIf_9 : decode cX11_oneIf 9 = .ok (.ireturn, 1) := by decide +kernel
theorem dX11_deedOf_0 : decode cX11_deedOf 0 = .ok (.iload_n 0, 1) := by decide +kernel
theorem dX11_deedOf_1 : decode cX11_deedOf 1 = .ok (.bipush 10, 2) := by decide +kernel
theorem dX11_deedOf_3 : decode cX11_deedOf 3 = .ok (.ishl, 1) := by decide +kernel
theorem dX11_deedOf_4 : decode cX11_deedOf 4 = .ok (.iload_n 1, 1) := by decide +kernel
theorem dX11_deedOf_5 : decode cX11_deedOf 5 = .ok (.iconst 5, 1) := by decide +kernel
theorem dX11_deedOf_6 : decode cX11_deedOf 6 = .ok (.ishl, 1) := by decide +kernel
theorem dX11_deedOf_7 : decode cX11_deedOf 7 = .ok (.ior, 1) := by decide +kernel
theorem dX11_deedOf_8 : decode cX11_deedOf 8 = .ok (.iload_n 2, 1) := by decide +kernel
theorem dX11_deedOf_9 : decode cX11_deedOf 9 = .ok (.ior, 1) := by decide +kernel
theorem dX11_deedOf_10 : decode cX11_deedOf 10 = .ok (.ireturn, 1) := by decide +kernel
theorem dX11_deedPart_0 : decode cX11_deedPart 0 = .ok (.iload_n 1, 1) := by decide +kernel
theorem dX11_deedPart_1 : decode cX11_deedPart 1 = .ok (.lookupswitch 43 #[(0, 27), (1, 34)], 27) := by decide +kernel
theorem dX11_deedPart_28 : decode cX11_deedPart 28 = .ok (.iload_n 0, 1) := by decide +kernel
theorem dX11_deedPart_29 : decode cX11_deedPart 29 = .ok (.bipush 10, 2) := by decide +kernel
theorem dX11_deedPart_31 : decode cX11_deedPart 31 = .ok (.ishr, 1) := by decide +kernel
theorem dX11_deedPart_32 : decode cX11_deedPart 32 = .ok (.goto 16, 3) := by decide +kernel
theorem dX11_deedPart_35 : decode cX11_deedPart 35 = .ok (.iload_n 0, 1) := by decide +kernel
theorem dX11_deedPart_36 : decode cX11_deedPart 36 = .ok (.iconst 5, 1) := by decide +kernel
theorem dX11_deedPart_37 : decode cX11_deedPart 37 = .ok (.ishr, 1) := by decide +kernel
theorem dX11_deedPart_38 : decode cX11_deedPart 38 = .ok (.bipush 31, 2) := by decide +kernel
theorem dX11_deedPart_40 : decode cX11_deedPart 40 = .ok (.iand, 1) := by decide +kernel
theorem dX11_deedPart_41 : decode cX11_deedPart 41 = .ok (.goto 7, 3) := by decide +kernel
theorem dX11_deedPart_44 : decode cX11_deedPart 44 = .ok (.iload_n 0, 1) := by decide +kernel
theorem dX11_deedPart_45 : decode cX11_deedPart 45 = .ok (.bipush 31, 2) := by decide +kernel
theorem dX11_deedPart_47 : decode cX11_deedPart 47 = .ok (.iand, 1) := by decide +kernel
theorem dX11_deedPart_48 : decode cX11_deedPart 48 = .ok (.ireturn, 1) := by decide +kernel
theorem dX12_init_0 : decode cX12_init 0 = .ok (.aload_n 0, 1) := by decide +kernel
theorem dX12_init_1 : decode cX12_init 1 = .ok (.invokespecial 1, 3) := by decide +kernel
theorem dX12_init_4 : decode cX12_init 4 = .ok (.aload_n 0, 1) := by decide +kernel
theorem dX12_init_5 : decode cX12_init 5 = .ok (.bipush 7, 2) := by decide +kernel
theorem dX12_init_7 : decode cX12_init 7 = .ok (.newarray .int, 2) := by decide +kernel
theorem dX12_init_9 : decode cX12_init 9 = .ok (.putfield 7, 3) := by decide +kernel
theorem dX12_init_12 : decode cX12_init 12 = .ok (.aload_n 0, 1) := by decide +kernel
theorem dX12_init_13 : decode cX12_init 13 = .ok (.bipush 24, 2) := by decide +kernel
theorem dX12_init_15 : decode cX12_init 15 = .ok (.newarray .int, 2) := by decide +kernel
theorem dX12_init_17 : decode cX12_init 17 = .ok (.putfield 13, 3) := by decide +kernel
theorem dX12_init_20 : decode cX12_init 20 = .ok (.aload_n 0, 1) := by decide +kernel
theorem dX12_init_21 : decode cX12_init 21 = .ok (.sipush 144, 3) := by decide +kernel
theorem dX12_init_24 : decode cX12_init 24 = .ok (.newarray .int, 2) := by decide +kernel
theorem dX12_init_26 : decode cX12_init 26 = .ok (.putfield 16, 3) := by decide +kernel
theorem dX12_init_29 : decode cX12_init 29 = .ok (.aload_n 0, 1) := by decide +kernel
theorem dX12_init_30 : decode cX12_init 30 = .ok (.bipush 30, 2) := by decide +kernel
theorem dX12_init_32 : decode cX12_init 32 = .ok (.newarray .int, 2) := by decide +kernel
theorem dX12_init_34 : decode cX12_init 34 = .ok (.putfield 19, 3) := by decide +kernel
theorem dX12_init_37 : decode cX12_init 37 = .ok (.aload_n 0, 1) := by decide +kernel
theorem dX12_init_38 : decode cX12_init 38 = .ok (.bipush 30, 2) := by decide +kernel
theorem dX12_init_40 : decode cX12_init 40 = .ok (.newarray .int, 2) := by decide +kernel
theorem dX12_init_42 : decode cX12_init 42 = .ok (.putfield 22, 3) := by decide +kernel
theorem dX12_init_45 : decode cX12_init 45 = .ok (.aload_n 0, 1) := by decide +kernel
theorem dX12_init_46 : decode cX12_init 46 = .ok (.sipush 200, 3) := by decide +kernel
theorem dX12_init_49 : decode cX12_init 49 = .ok (.newarray .int, 2) := by decide +kernel
theorem dX12_init_51 : decode cX12_init 51 = .ok (.putfield 25, 3) := by decide +kernel
theorem dX12_init_54 : decode cX12_init 54 = .ok (.aload_n 0, 1) := by decide +kernel
theorem dX12_init_55 : decode cX12_init 55 = .ok (.sipush 200, 3) := by decide +kernel
theorem dX12_init_58 : decode cX12_init 58 = .ok (.newarray .int, 2) := by decide +kernel
theorem dX12_init_60 : decode cX12_init 60 = .ok (.putfield 28, 3) := by decide +kernel
theorem dX12_init_63 : decode cX12_init 63 = .ok (.aload_n 0, 1) := by decide +kernel
theorem dX12_init_64 : decode cX12_init 64 = .ok (.sipush 200, 3) := by decide +kernel
theorem dX12_init_67 : decode cX12_init 67 = .ok (.newarray .int, 2) := by decide +kernel
theorem dX12_init_69 : decode cX12_init 69 = .ok (.putfield 31, 3) := by decide +kernel
theorem dX12_init_72 : decode cX12_init 72 = .ok (.aload_n 0, 1) := by decide +kernel
theorem dX12_init_73 : decode cX12_init 73 = .ok (.sipush 200, 3) := by decide +kernel
theorem dX12_init_76 : decode cX12_init 76 = .ok (.newarray .int, 2) := by decide +kernel
theorem dX12_init_78 : decode cX12_init 78 = .ok (.putfield 34, 3) := by decide +kernel
theorem dX12_init_81 : decode cX12_init 81 = .ok (.aload_n 0, 1) := by decide +kernel
theorem dX12_init_82 : decode cX12_init 82 = .ok (.sipush 200, 3) := by decide +kernel
theorem dX12_init_85 : decode cX12_init 85 = .ok (.newarray .boolean, 2) := by decide +kernel
theorem dX12_init_87 : decode cX12_init 87 = .ok (.putfield 37, 3) := by decide +kernel
theorem dX12_init_90 : decode cX12_init 90 = .ok (.aload_n 0, 1) := by decide +kernel
theorem dX12_init_91 : decode cX12_init 91 = .ok (.sipush 200, 3) := by decide +kernel
theorem dX12_init_94 : decode cX12_init 94 = .ok (.newarray .int, 2) := by decide +kernel
theorem dX12_init_96 : decode cX12_init 96 = .ok (.putfield 41, 3) := by decide +kernel
theorem dX12_init_99 : decode cX12_init 99 = .ok (.aload_n 0, 1) := by decide +kernel
theorem dX12_init_100 : decode cX12_init 100 = .ok (.bipush 30, 2) := by decide +kernel
theorem dX12_init_102 : decode cX12_init 102 = .ok (.newarray .int, 2) := by decide +kernel
theorem dX12_init_104 : decode cX12_init 104 = .ok (.putfield 44, 3) := by decide +kernel
theorem dX12_init_107 : decode cX12_init 107 = .ok (.aload_n 0, 1) := by decide +kernel
theorem dX12_init_108 : decode cX12_init 108 = .ok (.bipush 30, 2) := by decide +kernel
theorem dX12_init_110 : decode cX12_init 110 = .ok (.newarray .int, 2) := by decide +kernel
theorem dX12_init_112 : decode cX12_init 112 = .ok (.putfield 47, 3) := by decide +kernel
theorem dX12_init_115 : decode cX12_init 115 = .ok (.aload_n 0, 1) := by decide +kernel
theorem dX12_init_116 : decode cX12_init 116 = .ok (.bipush 30, 2) := by decide +kernel
theorem dX12_init_118 : decode cX12_init 118 = .ok (.newarray .int, 2) := by decide +kernel
theorem dX12_init_120 : decode cX12_init 120 = .ok (.putfield 50, 3) := by decide +kernel
theorem dX12_init_123 : decode cX12_init 123 = .ok (.aload_n 0, 1) := by decide +kernel
theorem dX12_init_124 : decode cX12_init 124 = .ok (.bipush 30, 2) := by decide +kernel
theorem dX12_init_126 : decode cX12_init 126 = .ok (.newarray .int, 2) := by decide +kernel
theorem dX12_init_128 : decode cX12_init 128 = .ok (.putfield 53, 3) := by decide +kernel
theorem dX12_init_131 : decode cX12_init 131 = .ok (.aload_n 0, 1) := by decide +kernel
theorem dX12_init_132 : decode cX12_init 132 = .ok (.bipush 30, 2) := by decide +kernel
theorem dX12_init_134 : decode cX12_init 134 = .ok (.newarray .boolean, 2) := by decide +kernel
theorem dX12_init_136 : decode cX12_init 136 = .ok (.putfield 56, 3) := by decide +kernel
theorem dX12_init_139 : decode cX12_init 139 = .ok (.aload_n 0, 1) := by decide +kernel
theorem dX12_init_140 : decode cX12_init 140 = .ok (.bipush 30, 2) := by decide +kernel
theorem dX12_init_142 : decode cX12_init 142 = .ok (.newarray .boolean, 2) := by decide +kernel
theorem dX12_init_144 : decode cX12_init 144 = .ok (.putfield 59, 3) := by decide +kernel
theorem dX12_init_147 : decode cX12_init 147 = .ok (.aload_n 0, 1) := by decide +kernel
theorem dX12_init_148 : decode cX12_init 148 = .ok (.sipush 300, 3) := by decide +kernel
theorem dX12_init_151 : decode cX12_init 151 = .ok (.newarray .int, 2) := by decide +kernel
theorem dX12_init_153 : decode cX12_init 153 = .ok (.putfield 62, 3) := by decide +kernel
theorem dX12_init_156 : decode cX12_init 156 = .ok (.aload_n 0, 1) := by decide +kernel
theorem dX12_init_157 : decode cX12_init 157 = .ok (.sipush 3000, 3) := by decide +kernel
theorem dX12_init_160 : decode cX12_init 160 = .ok (.newarray .int, 2) := by decide +kernel
theorem dX12_init_162 : decode cX12_init 162 = .ok (.putfield 65, 3) := by decide +kernel
theorem dX12_init_165 : decode cX12_init 165 = .ok (.aload_n 0, 1) := by decide +kernel
theorem dX12_init_166 : decode cX12_init 166 = .ok (.sipush 3000, 3) := by decide +kernel
theorem dX12_init_169 : decode cX12_init 169 = .ok (.newarray .int, 2) := by decide +kernel
theorem dX12_init_171 : decode cX12_init 171 = .ok (.putfield 68, 3) := by decide +kernel
theorem dX12_init_174 : decode cX12_init 174 = .ok (.aload_n 0, 1) := by decide +kernel
theorem dX12_init_175 : decode cX12_init 175 = .ok (.sipush 3000, 3) := by decide +kernel
theorem dX12_init_178 : decode cX12_init 178 = .ok (.newarray .boolean, 2) := by decide +kernel
theorem dX12_init_180 : decode cX12_init 180 = .ok (.putfield 71, 3) := by decide +kernel
theorem dX12_init_183 : decode cX12_init 183 = .ok (.aload_n 0, 1) := by decide +kernel
theorem dX12_init_184 : decode cX12_init 184 = .ok (.sipush 3000, 3) := by decide +kernel
theorem dX12_init_187 : decode cX12_init 187 = .ok (.newarray .boolean, 2) := by decide +kernel
theorem dX12_init_189 : decode cX12_init 189 = .ok (.putfield 74, 3) := by decide +kernel
theorem dX12_init_192 : decode cX12_init 192 = .ok (.aload_n 0, 1) := by decide +kernel
theorem dX12_init_193 : decode cX12_init 193 = .ok (.bipush 100, 2) := by decide +kernel
theorem dX12_init_195 : decode cX12_init 195 = .ok (.newarray .int, 2) := by decide +kernel
theorem dX12_init_197 : decode cX12_init 197 = .ok (.putfield 77, 3) := by decide +kernel
theorem dX12_init_200 : decode cX12_init 200 = .ok (.aload_n 0, 1) := by decide +kernel
theorem dX12_init_201 : decode cX12_init 201 = .ok (.bipush 30, 2) := by decide +kernel
theorem dX12_init_203 : decode cX12_init 203 = .ok (.newarray .int, 2) := by decide +kernel
theorem dX12_init_205 : decode cX12_init 205 = .ok (.putfield 80, 3) := by decide +kernel
theorem dX12_init_208 : decode cX12_init 208 = .ok (.aload_n 0, 1) := by decide +kernel
theorem dX12_init_209 : decode cX12_init 209 = .ok (.bipush 30, 2) := by decide +kernel
theorem dX12_init_211 : decode cX12_init 211 = .ok (.newarray .int, 2) := by decide +kernel
theorem dX12_init_213 : decode cX12_init 213 = .ok (.putfield 83, 3) := by decide +kernel
theorem dX12_init_216 : decode cX12_init 216 = .ok (.aload_n 0, 1) := by decide +kernel
theorem dX12_init_217 : decode cX12_init 217 = .ok (.bipush 30, 2) := by decide +kernel
theorem dX12_init_219 : decode cX12_init 219 = .ok (.newarray .boolean, 2) := by decide +kernel
theorem dX12_init_221 : decode cX12_init 221 = .ok (.putfield 86, 3) := by decide +kernel
theorem dX12_init_224 : decode cX12_init 224 = .ok (.aload_n 0, 1) := by decide +kernel
theorem dX12_init_225 : decode cX12_init 225 = .ok (.bipush 30, 2) := by decide +kernel
theorem dX12_init_227 : decode cX12_init 227 = .ok (.newarray .boolean, 2) := by decide +kernel
theorem dX12_init_229 : decode cX12_init 229 = .ok (.putfield 89, 3) := by decide +kernel
theorem dX12_init_232 : decode cX12_init 232 = .ok (.aload_n 0, 1) := by decide +kernel
theorem dX12_init_233 : decode cX12_init 233 = .ok (.bipush 30, 2) := by decide +kernel
theorem dX12_init_235 : decode cX12_init 235 = .ok (.newarray .boolean, 2) := by decide +kernel
theorem dX12_init_237 : decode cX12_init 237 = .ok (.putfield 92, 3) := by decide +kernel
theorem dX12_init_240 : decode cX12_init 240 = .ok (.aload_n 0, 1) := by decide +kernel
theorem dX12_init_241 : decode cX12_init 241 = .ok (.bipush 30, 2) := by decide +kernel
theorem dX12_init_243 : decode cX12_init 243 = .ok (.newarray .boolean, 2) := by decide +kernel
theorem dX12_init_245 : decode cX12_init 245 = .ok (.putfield 95, 3) := by decide +kernel
theorem dX12_init_248 : decode cX12_init 248 = .ok (.aload_n 0, 1) := by decide +kernel
theorem dX12_init_249 : decode cX12_init 249 = .ok (.bipush 30, 2) := by decide +kernel
theorem dX12_init_251 : decode cX12_init 251 = .ok (.newarray .boolean, 2) := by decide +kernel
theorem dX12_init_253 : decode cX12_init 253 = .ok (.putfield 98, 3) := by decide +kernel
theorem dX12_init_256 : decode cX12_init 256 = .ok (.aload_n 0, 1) := by decide +kernel
theorem dX12_init_257 : decode cX12_init 257 = .ok (.bipush 30, 2) := by decide +kernel
theorem dX12_init_259 : decode cX12_init 259 = .ok (.newarray .boolean, 2) := by decide +kernel
theorem dX12_init_261 : decode cX12_init 261 = .ok (.putfield 101, 3) := by decide +kernel
theorem dX12_init_264 : decode cX12_init 264 = .ok (.aload_n 0, 1) := by decide +kernel
theorem dX12_init_265 : decode cX12_init 265 = .ok (.bipush 30, 2) := by decide +kernel
theorem dX12_init_267 : decode cX12_init 267 = .ok (.newarray .boolean, 2) := by decide +kernel
theorem dX12_init_269 : decode cX12_init 269 = .ok (.putfield 104, 3) := by decide +kernel
theorem dX12_init_272 : decode cX12_init 272 = .ok (.aload_n 0, 1) := by decide +kernel
theorem dX12_init_273 : decode cX12_init 273 = .ok (.sipush 9030, 3) := by decide +kernel
theorem dX12_init_276 : decode cX12_init 276 = .ok (.newarray .byte, 2) := by decide +kernel
theorem dX12_init_278 : decode cX12_init 278 = .ok (.putfield 107, 3) := by decide +kernel
theorem dX12_init_281 : decode cX12_init 281 = .ok (.aload_n 0, 1) := by decide +kernel
theorem dX12_init_282 : decode cX12_init 282 = .ok (.sipush 9030, 3) := by decide +kernel
theorem dX12_init_285 : decode cX12_init 285 = .ok (.newarray .byte, 2) := by decide +kernel
theorem dX12_init_287 : decode cX12_init 287 = .ok (.putfield 111, 3) := by decide +kernel
theorem dX12_init_290 : decode cX12_init 290 = .ok (.aload_n 0, 1) := by decide +kernel
theorem dX12_init_291 : decode cX12_init 291 = .ok (.sipush 9030, 3) := by decide +kernel
theorem dX12_init_294 : decode cX12_init 294 = .ok (.newarray .byte, 2) := by decide +kernel
theorem dX12_init_296 : decode cX12_init 296 = .ok (.putfield 114, 3) := by decide +kernel
theorem dX12_init_299 : decode cX12_init 299 = .ok (.aload_n 0, 1) := by decide +kernel
theorem dX12_init_300 : decode cX12_init 300 = .ok (.sipush 300, 3) := by decide +kernel
theorem dX12_init_303 : decode cX12_init 303 = .ok (.newarray .int, 2) := by decide +kernel
theorem dX12_init_305 : decode cX12_init 305 = .ok (.putfield 117, 3) := by decide +kernel
theorem dX12_init_308 : decode cX12_init 308 = .ok (.aload_n 0, 1) := by decide +kernel
theorem dX12_init_309 : decode cX12_init 309 = .ok (.sipush 900, 3) := by decide +kernel
theorem dX12_init_312 : decode cX12_init 312 = .ok (.newarray .int, 2) := by decide +kernel
theorem dX12_init_314 : decode cX12_init 314 = .ok (.putfield 120, 3) := by decide +kernel
theorem dX12_init_317 : decode cX12_init 317 = .ok (.aload_n 0, 1) := by decide +kernel
theorem dX12_init_318 : decode cX12_init 318 = .ok (.sipush 900, 3) := by decide +kernel
theorem dX12_init_321 : decode cX12_init 321 = .ok (.newarray .int, 2) := by decide +kernel
theorem dX12_init_323 : decode cX12_init 323 = .ok (.putfield 123, 3) := by decide +kernel
theorem dX12_init_326 : decode cX12_init 326 = .ok (.aload_n 0, 1) := by decide +kernel
theorem dX12_init_327 : decode cX12_init 327 = .ok (.bipush 30, 2) := by decide +kernel
theorem dX12_init_329 : decode cX12_init 329 = .ok (.newarray .int, 2) := by decide +kernel
theorem dX12_init_331 : decode cX12_init 331 = .ok (.putfield 126, 3) := by decide +kernel
theorem dX12_init_334 : decode cX12_init 334 = .ok (.aload_n 0, 1) := by decide +kernel
theorem dX12_init_335 : decode cX12_init 335 = .ok (.bipush 30, 2) := by decide +kernel
theorem dX12_init_337 : decode cX12_init 337 = .ok (.newarray .int, 2) := by decide +kernel
theorem dX12_init_339 : decode cX12_init 339 = .ok (.putfield 129, 3) := by decide +kernel
theorem dX12_init_342 : decode cX12_init 342 = .ok (.aload_n 0, 1) := by decide +kernel
theorem dX12_init_343 : decode cX12_init 343 = .ok (.sipush 360, 3) := by decide +kernel
theorem dX12_init_346 : decode cX12_init 346 = .ok (.newarray .long, 2) := by decide +kernel
theorem dX12_init_348 : decode cX12_init 348 = .ok (.putfield 132, 3) := by decide +kernel
theorem dX12_init_351 : decode cX12_init 351 = .ok (.aload_n 0, 1) := by decide +kernel
theorem dX12_init_352 : decode cX12_init 352 = .ok (.bipush 30, 2) := by decide +kernel
theorem dX12_init_354 : decode cX12_init 354 = .ok (.newarray .boolean, 2) := by decide +kernel
theorem dX12_init_356 : decode cX12_init 356 = .ok (.putfield 136, 3) := by decide +kernel
theorem dX12_init_359 : decode cX12_init 359 = .ok (.aload_n 0, 1) := by decide +kernel
theorem dX12_init_360 : decode cX12_init 360 = .ok (.bipush 10, 2) := by decide +kernel
theorem dX12_init_362 : decode cX12_init 362 = .ok (.newarray .int, 2) := by decide +kernel
theorem dX12_init_364 : decode cX12_init 364 = .ok (.putfield 139, 3) := by decide +kernel
theorem dX12_init_367 : decode cX12_init 367 = .ok (.aload_n 0, 1) := by decide +kernel
theorem dX12_init_368 : decode cX12_init 368 = .ok (.bipush 10, 2) := by decide +kernel
theorem dX12_init_370 : decode cX12_init 370 = .ok (.newarray .int, 2) := by decide +kernel
theorem dX12_init_372 : decode cX12_init 372 = .ok (.putfield 142, 3) := by decide +kernel
theorem dX12_init_375 : decode cX12_init 375 = .ok (.aload_n 0, 1) := by decide +kernel
theorem dX12_init_376 : decode cX12_init 376 = .ok (.bipush 120, 2) := by decide +kernel
theorem dX12_init_378 : decode cX12_init 378 = .ok (.newarray .int, 2) := by decide +kernel
theorem dX12_init_380 : decode cX12_init 380 = .ok (.putfield 145, 3) := by decide +kernel
theorem dX12_init_383 : decode cX12_init 383 = .ok (.aload_n 0, 1) := by decide +kernel
theorem dX12_init_384 : decode cX12_init 384 = .ok (.bipush 12, 2) := by decide +kernel
theorem dX12_init_386 : decode cX12_init 386 = .ok (.newarray .long, 2) := by decide +kernel
theorem dX12_init_388 : decode cX12_init 388 = .ok (.putfield 148, 3) := by decide +kernel
theorem dX12_init_391 : decode cX12_init 391 = .ok (.aload_n 0, 1) := by decide +kernel
theorem dX12_init_392 : decode cX12_init 392 = .ok (.getfield 13, 3) := by decide +kernel
theorem dX12_init_395 : decode cX12_init 395 = .ok (.iconst 0, 1) := by decide +kernel
theorem dX12_init_396 : decode cX12_init 396 = .ok (.bipush (-9), 2) := by decide +kernel
theorem dX12_init_398 : decode cX12_init 398 = .ok (.iastore, 1) := by decide +kernel
theorem dX12_init_399 : decode cX12_init 399 = .ok (.aload_n 0, 1) := by decide +kernel
theorem dX12_init_400 : decode cX12_init 400 = .ok (.getfield 13, 3) := by decide +kernel
theorem dX12_init_403 : decode cX12_init 403 = .ok (.iconst 1, 1) := by decide +kernel
theorem dX12_init_404 : decode cX12_init 404 = .ok (.bipush (-9), 2) := by decide +kernel
theorem dX12_init_406 : decode cX12_init 406 = .ok (.iastore, 1) := by decide +kernel
theorem dX12_init_407 : decode cX12_init 407 = .ok (.iconst 2, 1) := by decide +kernel
theorem dX12_init_408 : decode cX12_init 408 = .ok (.istore_n 1, 1) := by decide +kernel
theorem dX12_init_409 : decode cX12_init 409 = .ok (.iload_n 1, 1) := by decide +kernel
theorem dX12_init_410 : decode cX12_init 410 = .ok (.bipush 6, 2) := by decide +kernel
theorem dX12_init_412 : decode cX12_init 412 = .ok (.if_icmp .ge 16, 3) := by decide +kernel
theorem dX12_init_415 : decode cX12_init 415 = .ok (.aload_n 0, 1) := by decide +kernel
theorem dX12_init_416 : decode cX12_init 416 = .ok (.getfield 13, 3) := by decide +kernel
theorem dX12_init_419 : decode cX12_init 419 = .ok (.iload_n 1, 1) := by decide +kernel
theorem dX12_init_420 : decode cX12_init 420 = .ok (.iconst 1, 1) := by decide +kernel
theorem dX12_init_421 : decode cX12_init 421 = .ok (.iastore, 1) := by decide +kernel
theorem dX12_init_422 : decode cX12_init 422 = .ok (.iinc 1 1, 3) := by decide +kernel
theorem dX12_init_425 : decode cX12_init 425 = .ok (.goto (-16), 3) := by decide +kernel
theorem dX12_init_428 : decode cX12_init 428 = .ok (.aload_n 0, 1) := by decide +kernel
theorem dX12_init_429 : decode cX12_init 429 = .ok (.bipush 6, 2) := by decide +kernel
theorem dX12_init_431 : decode cX12_init 431 = .ok (.putfield 151, 3) := by decide +kernel
theorem dX12_init_434 : decode cX12_init 434 = .ok (.iconst 0, 1) := by decide +kernel
theorem dX12_init_435 : decode cX12_init 435 = .ok (.istore_n 1, 1) := by decide +kernel
theorem dX12_init_436 : decode cX12_init 436 = .ok (.iload_n 1, 1) := by decide +kernel
theorem dX12_init_437 : decode cX12_init 437 = .ok (.sipush 144, 3) := by decide +kernel
theorem dX12_init_440 : decode cX12_init 440 = .ok (.if_icmp .ge 17, 3) := by decide +kernel
theorem dX12_init_443 : decode cX12_init 443 = .ok (.aload_n 0, 1) := by decide +kernel
theorem dX12_init_444 : decode cX12_init 444 = .ok (.getfield 16, 3) := by decide +kernel
theorem dX12_init_447 : decode cX12_init 447 = .ok (.iload_n 1, 1) := by decide +kernel
theorem dX12_init_448 : decode cX12_init 448 = .ok (.bipush (-9), 2) := by decide +kernel
theorem dX12_init_450 : decode cX12_init 450 = .ok (.iastore, 1) := by decide +kernel
theorem dX12_init_451 : decode cX12_init 451 = .ok (.iinc 1 1, 3) := by decide +kernel
theorem dX12_init_454 : decode cX12_init 454 = .ok (.goto (-18), 3) := by decide +kernel
theorem dX12_init_457 : decode cX12_init 457 = .ok (.aload_n 0, 1) := by decide +kernel
theorem dX12_init_458 : decode cX12_init 458 = .ok (.bipush (-9), 2) := by decide +kernel
theorem dX12_init_460 : decode cX12_init 460 = .ok (.putfield 155, 3) := by decide +kernel
theorem dX12_init_463 : decode cX12_init 463 = .ok (.aload_n 0, 1) := by decide +kernel
theorem dX12_init_464 : decode cX12_init 464 = .ok (.bipush (-9), 2) := by decide +kernel
theorem dX12_init_466 : decode cX12_init 466 = .ok (.putfield 158, 3) := by decide +kernel
theorem dX12_init_469 : decode cX12_init 469 = .ok (.return_, 1) := by decide +kernel
theorem dX12_in_0 : decode cX12_in 0 = .ok (.lload_n 0, 1) := by decide +kernel
theorem dX12_in_1 : decode cX12_in 1 = .ok (.lload_n 2, 1) := by decide +kernel
theorem dX12_in_2 : decode cX12_in 2 = .ok (.lcmp, 1) := by decide +kernel
theorem dX12_in_3 : decode cX12_in 3 = .ok (.ifCond .lt 14, 3) := by decide +kernel
theorem dX12_in_6 : decode cX12_in 6 = .ok (.lload_n 0, 1) := by decide +kernel
theorem dX12_in_7 : decode cX12_in 7 = .ok (.lload 4, 2) := by decide +kernel
theorem dX12_in_9 : decode cX12_in 9 = .ok (.lcmp, 1) := by decide +kernel
theorem dX12_in_10 : decode cX12_in 10 = .ok (.ifCond .gt 7, 3) := by decide +kernel
theorem dX12_in_13 : decode cX12_in 13 = .ok (.iconst 1, 1) := by decide +kernel
theorem dX12_in_14 : decode cX12_in 14 = .ok (.goto 4, 3) := by decide +kernel
theorem dX12_in_17 : decode cX12_in 17 = .ok (.iconst 0, 1) := by decide +kernel
theorem dX12_in_18 : decode cX12_in 18 = .ok (.ireturn, 1) := by decide +kernel
theorem dX12_meets_0 : decode cX12_meets 0 = .ok (.aload_n 0, 1) := by decide +kernel
theorem dX12_meets_1 : decode cX12_meets 1 = .ok (.iload_n 1, 1) := by decide +kernel
theorem dX12_meets_2 : decode cX12_meets 2 = .ok (.putfield 161, 3) := by decide +kernel
theorem dX12_meets_5 : decode cX12_meets 5 = .ok (.aload_n 0, 1) := by decide +kernel
theorem dX12_meets_6 : decode cX12_meets 6 = .ok (.getfield 7, 3) := by decide +kernel
theorem dX12_meets_9 : decode cX12_meets 9 = .ok (.iload_n 1, 1) := by decide +kernel
theorem dX12_meets_10 : decode cX12_meets 10 = .ok (.dup2, 1) := by decide +kernel
theorem dX12_meets_11 : decode cX12_meets 11 = .ok (.iaload, 1) := by decide +kernel
theorem dX12_meets_12 : decode cX12_meets 12 = .ok (.iconst 1, 1) := by decide +kernel
theorem dX12_meets_13 : decode cX12_meets 13 = .ok (.iadd, 1) := by decide +kernel
theorem dX12_meets_14 : decode cX12_meets 14 = .ok (.iastore, 1) := by decide +kernel
theorem dX12_meets_15 : decode cX12_meets 15 = .ok (.bipush (-3), 2) := by decide +kernel
theorem dX12_meets_17 : decode cX12_meets 17 = .ok (.ireturn, 1) := by decide +kernel
theorem dX12_finding_0 : decode cX12_finding 0 = .ok (.aload_n 0, 1) := by decide +kernel
theorem dX12_finding_1 : decode cX12_finding 1 = .ok (.getfield 161, 3) := by decide +kernel
theorem dX12_finding_4 : decode cX12_finding 4 = .ok (.ireturn, 1) := by decide +kernel
theorem dX12_findings_0 : decode cX12_findings 0 = .ok (.iload_n 1, 1) := by decide +kernel
theorem dX12_findings_1 : decode cX12_findings 1 = .ok (.i2l, 1) := by decide +kernel
theorem dX12_findings_2 : decode cX12_findings 2 = .ok (.lconst 1, 1) := by decide +kernel
theorem dX12_findings_3 : decode cX12_findings 3 = .ok (.ldc2_w 164, 3) := by decide +kernel
theorem dX12_findings_6 : decode cX12_findings 6 = .ok (.invokestatic 166, 3) := by decide +kernel
theorem dX12_findings_9 : decode cX12_findings 9 = .ok (.ifCond .eq 12, 3) := by decide +kernel
theorem dX12_findings_12 : decode cX12_findings 12 = .ok (.aload_n 0, 1) := by decide +kernel
theorem dX12_findings_13 : decode cX12_findings 13 = .ok (.getfield 7, 3) := by decide +kernel
theorem dX12_findings_16 : decode cX12_findings 16 = .ok (.iload_n 1, 1) := by decide +kernel
theorem dX12_findings_17 : decode cX12_findings 17 = .ok (.iaload, 1) := by decide +kernel
theorem dX12_findings_18 : decode cX12_findings 18 = .ok (.goto 4, 3) := by decide +kernel
theorem dX12_findings_21 : decode cX12_findings 21 = .ok (.iconst (-1), 1) := by decide +kernel
theorem dX12_findings_22 : decode cX12_findings 22 = .ok (.ireturn, 1) := by decide +kernel
theorem dX12_kind_0 : decode cX12_kind 0 = .ok (.iload_n 1, 1) := by decide +kernel
theorem dX12_kind_1 : decode cX12_kind 1 = .ok (.i2l, 1) := by decide +kernel
theorem dX12_kind_2 : decode cX12_kind 2 = .ok (.lconst 0, 1) := by decide +kernel
theorem dX12_kind_3 : decode cX12_kind 3 = .ok (.aload_n 0, 1) := by decide +kernel
theorem dX12_kind_4 : decode cX12_kind 4 = .ok (.getfield 151, 3) := by decide +kernel
theorem dX12_kind_7 : decode cX12_kind 7 = .ok (.iconst 1, 1) := by decide +kernel
theorem dX12_kind_8 : decode cX12_kind 8 = .ok (.isub, 1) := by decide +kernel
theorem dX12_kind_9 : decode cX12_kind 9 = .ok (.i2l, 1) := by decide +kernel
theorem dX12_kind_10 : decode cX12_kind 10 = .ok (.invokestatic 166, 3) := by decide +kernel
theorem dX12_kind_13 : decode cX12_kind 13 = .ok (.ifCond .ne 5, 3) := by decide +kernel
theorem dX12_kind_16 : decode cX12_kind 16 = .ok (.iconst (-1), 1) := by decide +kernel
theorem dX12_kind_17 : decode cX12_kind 17 = .ok (.ireturn, 1) := by decide +kernel
theorem dX12_kind_18 : decode cX12_kind 18 = .ok (.aload_n 0, 1) := by decide +kernel
theorem dX12_kind_19 : decode cX12_kind 19 = .ok (.getfield 151, 3) := by decide +kernel
theorem dX12_kind_22 : decode cX12_kind 22 = .ok (.bipush 24, 2) := by decide +kernel
theorem dX12_kind_24 : decode cX12_kind 24 = .ok (.if_icmp .ne 6, 3) := by decide +kernel
theorem dX12_kind_27 : decode cX12_kind 27 = .ok (.bipush (-2), 2) := by decide +kernel
theorem dX12_kind_29 : decode cX12_kind 29 = .ok (.ireturn, 1) := by decide +kernel
theorem dX12_kind_30 : decode cX12_kind 30 = .ok (.aload_n 0, 1) := by decide +kernel
theorem dX12_kind_31 : decode cX12_kind 31 = .ok (.getfield 13, 3) := by decide +kernel
theorem dX12_kind_34 : decode cX12_kind 34 = .ok (.aload_n 0, 1) := by decide +kernel
theorem dX12_kind_35 : decode cX12_kind 35 = .ok (.getfield 151, 3) := by decide +kernel
theorem dX12_kind_38 : decode cX12_kind 38 = .ok (.iload_n 1, 1) := by decide +kernel
theorem dX12_kind_39 : decode cX12_kind 39 = .ok (.iastore, 1) := by decide +kernel
theorem dX12_kind_40 : decode cX12_kind 40 = .ok (.aload_n 0, 1) := by decide +kernel
theorem dX12_kind_41 : decode cX12_kind 41 = .ok (.dup, 1) := by decide +kernel
theorem dX12_kind_42 : decode cX12_kind 42 = .ok (.getfield 151, 3) := by decide +kernel
theorem dX12_kind_45 : decode cX12_kind 45 = .ok (.iconst 1, 1) := by decide +kernel
theorem dX12_kind_46 : decode cX12_kind 46 = .ok (.iadd, 1) := by decide +kernel
theorem dX12_kind_47 : decode cX12_kind 47 = .ok (.putfield 151, 3) := by decide +kernel
theorem dX12_kind_50 : decode cX12_kind 50 = .ok (.aload_n 0, 1) := by decide +kernel
theorem dX12_kind_51 : decode cX12_kind 51 = .ok (.getfield 151, 3) := by decide +kernel
theorem dX12_kind_54 : decode cX12_kind 54 = .ok (.iconst 1, 1) := by decide +kernel
theorem dX12_kind_55 : decode cX12_kind 55 = .ok (.isub, 1) := by decide +kernel
theorem dX12_kind_56 : decode cX12_kind 56 = .ok (.ireturn, 1) := by decide +kernel
theorem dX12_standard_0 : decode cX12_standard 0 = .ok (.iload_n 1, 1) := by decide +kernel
theorem dX12_standard_1 : decode cX12_standard 1 = .ok (.i2l, 1) := by decide +kernel
theorem dX12_standard_2 : decode cX12_standard 2 = .ok (.lconst 0, 1) := by decide +kernel
theorem dX12_standard_3 : decode cX12_standard 3 = .ok (.aload_n 0, 1) := by decide +kernel
theorem dX12_standard_4 : decode cX12_standard 4 = .ok (.getfield 151, 3) := by decide +kernel
theorem dX12_standard_7 : decode cX12_standard 7 = .ok (.iconst 1, 1) := by decide +kernel
theorem dX12_standard_8 : decode cX12_standard 8 = .ok (.isub, 1) := by decide +kernel
theorem dX12_standard_9 : decode cX12_standard 9 = .ok (.i2l, 1) := by decide +kernel
theorem dX12_standard_10 : decode cX12_standard 10 = .ok (.invokestatic 166, 3) := by decide +kernel
theorem dX12_standard_13 : decode cX12_standard 13 = .ok (.ifCond .eq 31, 3) := by decide +kernel
theorem dX12_standard_16 : decode cX12_standard 16 = .ok (.iload_n 2, 1) := by decide +kernel
theorem dX12_standard_17 : decode cX12_standard 17 = .ok (.i2l, 1) := by decide +kernel
theorem dX12_standard_18 : decode cX12_standard 18 = .ok (.lconst 0, 1) := by decide +kernel
theorem dX12_standard_19 : decode cX12_standard 19 = .ok (.ldc2_w 170, 3) := by decide +kernel
theorem dX12_standard_22 : decode cX12_standard 22 = .ok (.invokestatic 166, 3) := by decide +kernel
theorem dX12_standard_25 : decode cX12_standard 25 = .ok (.ifCond .eq 19, 3) := by decide +kernel
theorem dX12_standard_28 : decode cX12_standard 28 = .ok (.iload_n 3, 1) := by decide +kernel
theorem dX12_standard_29 : decode cX12_standard 29 = .ok (.i2l, 1) := by decide +kernel
theorem dX12_standard_30 : decode cX12_standard 30 = .ok (.lconst 0, 1) := by decide +kernel
theorem dX12_standard_31 : decode cX12_standard 31 = .ok (.lconst 1, 1) := by decide +kernel
theorem dX12_standard_32 : decode cX12_standard 32 = .ok (.invokestatic 166, 3) := by decide +kernel
theorem dX12_standard_35 : decode cX12_standard 35 = .ok (.ifCond .ne 11, 3) := by decide +kernel
theorem dX12_standard_38 : decode cX12_standard 38 = .ok (.iload_n 3, 1) := by decide +kernel
theorem dX12_standard_39 : decode cX12_standard 39 = .ok (.bipush (-9), 2) := by decide +kernel
theorem dX12_standard_41 : decode cX12_standard 41 = .ok (.if_icmp .eq 5, 3) := by decide +kernel
theorem dX12_standard_44 : decode cX12_standard 44 = .ok (.iconst (-1), 1) := by decide +kernel
theorem dX12_standard_45 : decode cX12_standard 45 = .ok (.ireturn, 1) := by decide +kernel
theorem dX12_standard_46 : decode cX12_standard 46 = .ok (.aload_n 0, 1) := by decide +kernel
theorem dX12_standard_47 : decode cX12_standard 47 = .ok (.getfield 16, 3) := by decide +kernel
theorem dX12_standard_50 : decode cX12_standard 50 = .ok (.bipush 6, 2) := by decide +kernel
theorem dX12_standard_52 : decode cX12_standard 52 = .ok (.iload_n 1, 1) := by decide +kernel
theorem dX12_standard_53 : decode cX12_standard 53 = .ok (.imul, 1) := by decide +kernel
theorem dX12_standard_54 : decode cX12_standard 54 = .ok (.iload_n 2, 1) := by decide +kernel
theorem dX12_standard_55 : decode cX12_standard 55 = .ok (.iadd, 1) := by decide +kernel
theorem dX12_standard_56 : decode cX12_standard 56 = .ok (.iaload, 1) := by decide +kernel
theorem dX12_standard_57 : decode cX12_standard 57 = .ok (.istore 4, 2) := by decide +kernel
theorem dX12_standard_59 : decode cX12_standard 59 = .ok (.aload_n 0, 1) := by decide +kernel
theorem dX12_standard_60 : decode cX12_standard 60 = .ok (.getfield 16, 3) := by decide +kernel
theorem dX12_standard_63 : decode cX12_standard 63 = .ok (.bipush 6, 2) := by decide +kernel
theorem dX12_standard_65 : decode cX12_standard 65 = .ok (.iload_n 1, 1) := by decide +kernel
theorem dX12_standard_66 : decode cX12_standard 66 = .ok (.imul, 1) := by decide +kernel
theorem dX12_standard_67 : decode cX12_standard 67 = .ok (.iload_n 2, 1) := by decide +kernel
theorem dX12_standard_68 : decode cX12_standard 68 = .ok (.iadd, 1) := by decide +kernel
theorem dX12_standard_69 : decode cX12_standard 69 = .ok (.iload_n 3, 1) := by decide +kernel
theorem dX12_standard_70 : decode cX12_standard 70 = .ok (.iastore, 1) := by decide +kernel
theorem dX12_standard_71 : decode cX12_standard 71 = .ok (.aload_n 0, 1) := by decide +kernel
theorem dX12_standard_72 : decode cX12_standard 72 = .ok (.invokevirtual 172, 3) := by decide +kernel
theorem dX12_standard_75 : decode cX12_standard 75 = .ok (.iload 4, 2) := by decide +kernel
theorem dX12_standard_77 : decode cX12_standard 77 = .ok (.ireturn, 1) := by decide +kernel
theorem dX12_make_0 : decode cX12_make 0 = .ok (.iload_n 1, 1) := by decide +kernel
theorem dX12_make_1 : decode cX12_make 1 = .ok (.i2l, 1) := by decide +kernel
theorem dX12_make_2 : decode cX12_make 2 = .ok (.lconst 0, 1) := by decide +kernel
theorem dX12_make_3 : decode cX12_make 3 = .ok (.aload_n 0, 1) := by decide +kernel
theorem dX12_make_4 : decode cX12_make 4 = .ok (.getfield 151, 3) := by decide +kernel
theorem dX12_make_7 : decode cX12_make 7 = .ok (.iconst 1, 1) := by decide +kernel
theorem dX12_make_8 : decode cX12_make 8 = .ok (.isub, 1) := by decide +kernel
theorem dX12_make_9 : decode cX12_make 9 = .ok (.i2l, 1) := by decide +kernel
theorem dX12_make_10 : decode cX12_make 10 = .ok (.invokestatic 166, 3) := by decide +kernel
theorem dX12_make_13 : decode cX12_make 13 = .ok (.ifCond .eq 15, 3) := by decide +kernel
theorem dX12_make_16 : decode cX12_make 16 = .ok (.iload_n 2, 1) := by decide +kernel
theorem dX12_make_17 : decode cX12_make 17 = .ok (.i2l, 1) := by decide +kernel
theorem dX12_make_18 : decode cX12_make 18 = .ok (.lconst 0, 1) := by decide +kernel
theorem dX12_make_19 : decode cX12_make 19 = .ok (.ldc2_w 175, 3) := by decide +kernel
theorem dX12_make_22 : decode cX12_make 22 = .ok (.invokestatic 166, 3) := by decide +kernel
theorem dX12_make_25 : decode cX12_make 25 = .ok (.ifCond .ne 5, 3) := by decide +kernel
theorem dX12_make_28 : decode cX12_make 28 = .ok (.iconst (-1), 1) := by decide +kernel
theorem dX12_make_29 : decode cX12_make 29 = .ok (.ireturn, 1) := by decide +kernel
theorem dX12_make_30 : decode cX12_make 30 = .ok (.aload_n 0, 1) := by decide +kernel
theorem dX12_make_31 : decode cX12_make 31 = .ok (.getfield 177, 3) := by decide +kernel
theorem dX12_make_34 : decode cX12_make 34 = .ok (.bipush 30, 2) := by decide +kernel
theorem dX12_make_36 : decode cX12_make 36 = .ok (.if_icmp .ne 6, 3) := by decide +kernel
theorem dX12_make_39 : decode cX12_make 39 = .ok (.bipush (-2), 2) := by decide +kernel
theorem dX12_make_41 : decode cX12_make 41 = .ok (.ireturn, 1) := by decide +kernel
theorem dX12_make_42 : decode cX12_make 42 = .ok (.aload_n 0, 1) := by decide +kernel
theorem dX12_make_43 : decode cX12_make 43 = .ok (.getfield 19, 3) := by decide +kernel
theorem dX12_make_46 : decode cX12_make 46 = .ok (.aload_n 0, 1) := by decide +kernel
theorem dX12_make_47 : decode cX12_make 47 = .ok (.getfield 177, 3) := by decide +kernel
theorem dX12_make_50 : decode cX12_make 50 = .ok (.iload_n 1, 1) := by decide +kernel
theorem dX12_make_51 : decode cX12_make 51 = .ok (.iastore, 1) := by decide +kernel
theorem dX12_make_52 : decode cX12_make 52 = .ok (.aload_n 0, 1) := by decide +kernel
theorem dX12_make_53 : decode cX12_make 53 = .ok (.getfield 22, 3) := by decide +kernel
theorem dX12_make_56 : decode cX12_make 56 = .ok (.aload_n 0, 1) := by decide +kernel
theorem dX12_make_57 : decode cX12_make 57 = .ok (.getfield 177, 3) := by decide +kernel
theorem dX12_make_60 : decode cX12_make 60 = .ok (.iload_n 2, 1) := by decide +kernel
theorem dX12_make_61 : decode cX12_make 61 = .ok (.iastore, 1) := by decide +kernel
theorem dX12_make_62 : decode cX12_make 62 = .ok (.aload_n 0, 1) := by decide +kernel
theorem dX12_make_63 : decode cX12_make 63 = .ok (.dup, 1) := by decide +kernel
theorem dX12_make_64 : decode cX12_make 64 = .ok (.getfield 177, 3) := by decide +kernel
theorem dX12_make_67 : decode cX12_make 67 = .ok (.iconst 1, 1) := by decide +kernel
theorem dX12_make_68 : decode cX12_make 68 = .ok (.iadd, 1) := by decide +kernel
theorem dX12_make_69 : decode cX12_make 69 = .ok (.putfield 177, 3) := by decide +kernel
theorem dX12_make_72 : decode cX12_make 72 = .ok (.aload_n 0, 1) := by decide +kernel
theorem dX12_make_73 : decode cX12_make 73 = .ok (.invokevirtual 172, 3) := by decide +kernel
theorem dX12_make_76 : decode cX12_make 76 = .ok (.aload_n 0, 1) := by decide +kernel
theorem dX12_make_77 : decode cX12_make 77 = .ok (.getfield 177, 3) := by decide +kernel
theorem dX12_make_80 : decode cX12_make 80 = .ok (.iconst 1, 1) := by decide +kernel
theorem dX12_make_81 : decode cX12_make 81 = .ok (.isub, 1) := by decide +kernel
theorem dX12_make_82 : decode cX12_make 82 = .ok (.ireturn, 1) := by decide +kernel
theorem dX12_isObject_0 : decode cX12_isObject 0 = .ok (.iload_n 1, 1) := by decide +kernel
theorem dX12_isObject_1 : decode cX12_isObject 1 = .ok (.i2l, 1) := by decide +kernel
theorem dX12_isObject_2 : decode cX12_isObject 2 = .ok (.lconst 0, 1) := by decide +kernel
theorem dX12_isObject_3 : decode cX12_isObject 3 = .ok (.aload_n 0, 1) := by decide +kernel
theorem dX12_isObject_4 : decode cX12_isObject 4 = .ok (.getfield 177, 3) := by decide +kernel
theorem dX12_isObject_7 : decode cX12_isObject 7 = .ok (.iconst 1, 1) := by decide +kernel
theorem dX12_isObject_8 : decode cX12_isObject 8 = .ok (.isub, 1) := by decide +kernel
theorem dX12_isObject_9 : decode cX12_isObject 9 = .ok (.i2l, 1) := by decide +kernel
theorem dX12_isObject_10 : decode cX12_isObject 10 = .ok (.invokestatic 166, 3) := by decide +kernel
theorem dX12_isObject_13 : decode cX12_isObject 13 = .ok (.ireturn, 1) := by decide +kernel
theorem dX12_isOf_0 : decode cX12_isOf 0 = .ok (.aload_n 0, 1) := by decide +kernel
theorem dX12_isOf_1 : decode cX12_isOf 1 = .ok (.getfield 19, 3) := by decide +kernel
theorem dX12_isOf_4 : decode cX12_isOf 4 = .ok (.iload_n 1, 1) := by decide +kernel
theorem dX12_isOf_5 : decode cX12_isOf 5 = .ok (.iaload, 1) := by decide +kernel
theorem dX12_isOf_6 : decode cX12_isOf 6 = .ok (.istore_n 3, 1) := by decide +kernel
theorem dX12_isOf_7 : decode cX12_isOf 7 = .ok (.iload_n 3, 1) := by decide +kernel
theorem dX12_isOf_8 : decode cX12_isOf 8 = .ok (.bipush (-9), 2) := by decide +kernel
theorem dX12_isOf_10 : decode cX12_isOf 10 = .ok (.if_icmp .eq 18, 3) := by decide +kernel
theorem dX12_isOf_13 : decode cX12_isOf 13 = .ok (.iload_n 3, 1) := by decide +kernel
theorem dX12_isOf_14 : decode cX12_isOf 14 = .ok (.iload_n 2, 1) := by decide +kernel
theorem dX12_isOf_15 : decode cX12_isOf 15 = .ok (.if_icmp .eq 13, 3) := by decide +kernel
theorem dX12_isOf_18 : decode cX12_isOf 18 = .ok (.aload_n 0, 1) := by decide +kernel
theorem dX12_isOf_19 : decode cX12_isOf 19 = .ok (.getfield 13, 3) := by decide +kernel
theorem dX12_isOf_22 : decode cX12_isOf 22 = .ok (.iload_n 3, 1) := by decide +kernel
theorem dX12_isOf_23 : decode cX12_isOf 23 = .ok (.iaload, 1) := by decide +kernel
theorem dX12_isOf_24 : decode cX12_isOf 24 = .ok (.istore_n 3, 1) := by decide +kernel
theorem dX12_isOf_25 : decode cX12_isOf 25 = .ok (.goto (-18), 3) := by decide +kernel
theorem dX12_isOf_28 : decode cX12_isOf 28 = .ok (.iload_n 3, 1) := by decide +kernel
theorem dX12_isOf_29 : decode cX12_isOf 29 = .ok (.iload_n 2, 1) := by decide +kernel
theorem dX12_isOf_30 : decode cX12_isOf 30 = .ok (.if_icmp .ne 7, 3) := by decide +kernel
theorem dX12_isOf_33 : decode cX12_isOf 33 = .ok (.iconst 1, 1) := by decide +kernel
theorem dX12_isOf_34 : decode cX12_isOf 34 = .ok (.goto 4, 3) := by decide +kernel
theorem dX12_isOf_37 : decode cX12_isOf 37 = .ok (.iconst 0, 1) := by decide +kernel
theorem dX12_isOf_38 : decode cX12_isOf 38 = .ok (.ireturn, 1) := by decide +kernel
theorem dX12_is_0 : decode cX12_is 0 = .ok (.aload_n 0, 1) := by decide +kernel
theorem dX12_is_1 : decode cX12_is 1 = .ok (.iload_n 1, 1) := by decide +kernel
theorem dX12_is_2 : decode cX12_is 2 = .ok (.invokevirtual 180, 3) := by decide +kernel
theorem dX12_is_5 : decode cX12_is 5 = .ok (.ifCond .eq 19, 3) := by decide +kernel
theorem dX12_is_8 : decode cX12_is 8 = .ok (.iload_n 2, 1) := by decide +kernel
theorem dX12_is_9 : decode cX12_is 9 = .ok (.i2l, 1) := by decide +kernel
theorem dX12_is_10 : decode cX12_is 10 = .ok (.lconst 0, 1) := by decide +kernel
theorem dX12_is_11 : decode cX12_is 11 = .ok (.aload_n 0, 1) := by decide +kernel
theorem dX12_is_12 : decode cX12_is 12 = .ok (.getfield 151, 3) := by decide +kernel
theorem dX12_is_15 : decode cX12_is 15 = .ok (.iconst 1, 1) := by decide +kernel
theorem dX12_is_16 : decode cX12_is 16 = .ok (.isub, 1) := by decide +kernel
theorem dX12_is_17 : decode cX12_is 17 = .ok (.i2l, 1) := by decide +kernel
theorem dX12_is_18 : decode cX12_is 18 = .ok (.invokestatic 166, 3) := by decide +kernel
theorem dX12_is_21 : decode cX12_is 21 = .ok (.ifCond .ne 7, 3) := by decide +kernel
theorem dX12_is_24 : decode cX12_is 24 = .ok (.iconst (-1), 1) := by decide +kernel
theorem dX12_is_25 : decode cX12_is 25 = .ok (.goto 17, 3) := by decide +kernel
theorem dX12_is_28 : decode cX12_is 28 = .ok (.aload_n 0, 1) := by decide +kernel
theorem dX12_is_29 : decode cX12_is 29 = .ok (.iload_n 1, 1) := by decide +kernel
theorem dX12_is_30 : decode cX12_is 30 = .ok (.iload_n 2, 1) := by decide +kernel
theorem dX12_is_31 : decode cX12_is 31 = .ok (.invokevirtual 184, 3) := by decide +kernel
theorem dX12_is_34 : decode cX12_is 34 = .ok (.ifCond .eq 7, 3) := by decide +kernel
theorem dX12_is_37 : decode cX12_is 37 = .ok (.iconst 1, 1) := by decide +kernel
theorem dX12_is_38 : decode cX12_is 38 = .ok (.goto 4, 3) := by decide +kernel
theorem dX12_is_41 : decode cX12_is 41 = .ok (.iconst 0, 1) := by decide +kernel
theorem dX12_is_42 : decode cX12_is 42 = .ok (.ireturn, 1) := by decide +kernel
theorem dX12_isMovable_0 : decode cX12_isMovable 0 = .ok (.aload_n 0, 1) := by decide +kernel
theorem dX12_isMovable_1 : decode cX12_isMovable 1 = .ok (.iload_n 1, 1) := by decide +kernel
theorem dX12_isMovable_2 : decode cX12_isMovable 2 = .ok (.iconst 1, 1) := by decide +kernel
theorem dX12_isMovable_3 : decode cX12_isMovable 3 = .ok (.invokevirtual 184, 3) := by decide +kernel
theorem dX12_isMovable_6 : decode cX12_isMovable 6 = .ok (.ifCond .eq 16, 3) := by decide +kernel
theorem dX12_isMovable_9 : decode cX12_isMovable 9 = .ok (.aload_n 0, 1) := by decide +kernel
theorem dX12_isMovable_10 : decode cX12_isMovable 10 = .ok (.iload_n 1, 1) := by decide +kernel
theorem dX12_isMovable_11 : decode cX12_isMovable 11 = .ok (.iconst 2, 1) := by decide +kernel
theorem dX12_isMovable_12 : decode cX12_isMovable 12 = .ok (.invokevirtual 184, 3) := by decide +kernel
theorem dX12_isMovable_15 : decode cX12_isMovable 15 = .ok (.ifCond .ne 7, 3) := by decide +kernel
theorem dX12_isMovable_18 : decode cX12_isMovable 18 = .ok (.iconst 1, 1) := by decide +kernel
theorem dX12_isMovable_19 : decode cX12_isMovable 19 = .ok (.goto 4, 3) := by decide +kernel
theorem dX12_isMovable_22 : decode cX12_isMovable 22 = .ok (.iconst 0, 1) := by decide +kernel
theorem dX12_isMovable_23 : decode cX12_isMovable 23 = .ok (.ireturn, 1) := by decide +kernel
theorem dX12_isGoods_0 : decode cX12_isGoods 0 = .ok (.aload_n 0, 1) := by decide +kernel
theorem dX12_isGoods_1 : decode cX12_isGoods 1 = .ok (.iload_n 1, 1) := by decide +kernel
theorem dX12_isGoods_2 : decode cX12_isGoods 2 = .ok (.invokevirtual 188, 3) := by decide +kernel
theorem dX12_isGoods_5 : decode cX12_isGoods 5 = .ok (.ifCond .eq 16, 3) := by decide +kernel
theorem dX12_isGoods_8 : decode cX12_isGoods 8 = .ok (.aload_n 0, 1) := by decide +kernel
theorem dX12_isGoods_9 : decode cX12_isGoods 9 = .ok (.iload_n 1, 1) := by decide +kernel
theorem dX12_isGoods_10 : decode cX12_isGoods 10 = .ok (.iconst 5, 1) := by decide +kernel
theorem dX12_isGoods_11 : decode cX12_isGoods 11 = .ok (.invokevirtual 184, 3) := by decide +kernel
theorem dX12_isGoods_14 : decode cX12_isGoods 14 = .ok (.ifCond .ne 7, 3) := by decide +kernel
theorem dX12_isGoods_17 : decode cX12_isGoods 17 = .ok (.iconst 1, 1) := by decide +kernel
theorem dX12_isGoods_18 : decode cX12_isGoods 18 = .ok (.goto 4, 3) := by decide +kernel
theorem dX12_isGoods_21 : decode cX12_isGoods 21 = .ok (.iconst 0, 1) := by decide +kernel
theorem dX12_isGoods_22 : decode cX12_isGoods 22 = .ok (.ireturn, 1) := by decide +kernel
theorem dX12_isShutter_0 : decode cX12_isShutter 0 = .ok (.aload_n 0, 1) := by decide +kernel
theorem dX12_isShutter_1 : decode cX12_isShutter 1 = .ok (.iload_n 1, 1) := by decide +kernel
theorem dX12_isShutter_2 : decode cX12_isShutter 2 = .ok (.iconst 2, 1) := by decide +kernel
theorem dX12_isShutter_3 : decode cX12_isShutter 3 = .ok (.invokevirtual 184, 3) := by decide +kernel
theorem dX12_isShutter_6 : decode cX12_isShutter 6 = .ok (.ifCond .ne 12, 3) := by decide +kernel
theorem dX12_isShutter_9 : decode cX12_isShutter 9 = .ok (.aload_n 0, 1) := by decide +kernel
theorem dX12_isShutter_10 : decode cX12_isShutter 10 = .ok (.iload_n 1, 1) := by decide +kernel
theorem dX12_isShutter_11 : decode cX12_isShutter 11 = .ok (.iconst 3, 1) := by decide +kernel
theorem dX12_isShutter_12 : decode cX12_isShutter 12 = .ok (.invokevirtual 184, 3) := by decide +kernel
theorem dX12_isShutter_15 : decode cX12_isShutter 15 = .ok (.ifCond .eq 7, 3) := by decide +kernel
theorem dX12_isShutter_18 : decode cX12_isShutter 18 = .ok (.iconst 1, 1) := by decide +kernel
theorem dX12_isShutter_19 : decode cX12_isShutter 19 = .ok (.goto 4, 3) := by decide +kernel
theorem dX12_isShutter_22 : decode cX12_isShutter 22 = .ok (.iconst 0, 1) := by decide +kernel
theorem dX12_isShutter_23 : decode cX12_isShutter 23 = .ok (.ireturn, 1) := by decide +kernel
theorem dX12_mayHave_0 : decode cX12_mayHave 0 = .ok (.iload_n 2, 1) := by decide +kernel
theorem dX12_mayHave_1 : decode cX12_mayHave 1 = .ok (.tableswitch 55 0 4 #[35, 35, 41, 43, 49], 35) := by decide +kernel
theorem dX12_mayHave_36 : decode cX12_mayHave 36 = .ok (.aload_n 0, 1) := by decide +kernel
theorem dX12_mayHave_37 : decode cX12_mayHave 37 = .ok (.iload_n 1, 1) := by decide +kernel
theorem dX12_mayHave_38 : decode cX12_mayHave 38 = .ok (.invokevirtual 191, 3) := by decide +kernel
theorem dX12_mayHave_41 : decode cX12_mayHave 41 = .ok (.ireturn, 1) := by decide +kernel
theorem dX12_mayHave_42 : decode cX12_mayHave 42 = .ok (.iconst 1, 1) := by decide +kernel
theorem dX12_mayHave_43 : decode cX12_mayHave 43 = .ok (.ireturn, 1) := by decide +kernel
theorem dX12_mayHave_44 : decode cX12_mayHave 44 = .ok (.aload_n 0, 1) := by decide +kernel
theorem dX12_mayHave_45 : decode cX12_mayHave 45 = .ok (.iload_n 1, 1) := by decide +kernel
theorem dX12_mayHave_46 : decode cX12_mayHave 46 = .ok (.invokevirtual 188, 3) := by decide +kernel
theorem dX12_mayHave_49 : decode cX12_mayHave 49 = .ok (.ireturn, 1) := by decide +kernel
theorem dX12_mayHave_50 : decode cX12_mayHave 50 = .ok (.aload_n 0, 1) := by decide +kernel
theorem dX12_mayHave_51 : decode cX12_mayHave 51 = .ok (.iload_n 1, 1) := by decide +kernel
theorem dX12_mayHave_52 : decode cX12_mayHave 52 = .ok (.invokevirtual 194, 3) := by decide +kernel
theorem dX12_mayHave_55 : decode cX12_mayHave 55 = .ok (.ireturn, 1) := by decide +kernel
theorem dX12_mayHave_56 : decode cX12_mayHave 56 = .ok (.aload_n 0, 1) := by decide +kernel
theorem dX12_mayHave_57 : decode cX12_mayHave 57 = .ok (.iload_n 1, 1) := by decide +kernel
theorem dX12_mayHave_58 : decode cX12_mayHave 58 = .ok (.iconst 3, 1) := by decide +kernel
theorem dX12_mayHave_59 : decode cX12_mayHave 59 = .ok (.invokevirtual 184, 3) := by decide +kernel
theorem dX12_mayHave_62 : decode cX12_mayHave 62 = .ok (.ireturn, 1) := by decide +kernel
theorem dX12_areNumbers_0 : decode cX12_areNumbers 0 = .ok (.iload_n 1, 1) := by decide +kernel
theorem dX12_areNumbers_1 : decode cX12_areNumbers 1 = .ok (.bipush 6, 2) := by decide +kernel
theorem dX12_areNumbers_3 : decode cX12_areNumbers 3 = .ok (.if_icmp .ne 40, 3) := by decide +kernel
theorem dX12_areNumbers_6 : decode cX12_areNumbers 6 = .ok (.aload_n 0, 1) := by decide +kernel
theorem dX12_areNumbers_7 : decode cX12_areNumbers 7 = .ok (.iload_n 2, 1) := by decide +kernel
theorem dX12_areNumbers_8 : decode cX12_areNumbers 8 = .ok (.invokevirtual 180, 3) := by decide +kernel
theorem dX12_areNumbers_11 : decode cX12_areNumbers 11 = .ok (.ifCond .eq 30, 3) := by decide +kernel
theorem dX12_areNumbers_14 : decode cX12_areNumbers 14 = .ok (.iload_n 3, 1) := by decide +kernel
theorem dX12_areNumbers_15 : decode cX12_areNumbers 15 = .ok (.i2l, 1) := by decide +kernel
theorem dX12_areNumbers_16 : decode cX12_areNumbers 16 = .ok (.lconst 0, 1) := by decide +kernel
theorem dX12_areNumbers_17 : decode cX12_areNumbers 17 = .ok (.ldc2_w 170, 3) := by decide +kernel
theorem dX12_areNumbers_20 : decode cX12_areNumbers 20 = .ok (.invokestatic 166, 3) := by decide +kernel
theorem dX12_areNumbers_23 : decode cX12_areNumbers 23 = .ok (.ifCond .eq 18, 3) := by decide +kernel
theorem dX12_areNumbers_26 : decode cX12_areNumbers 26 = .ok (.iload 4, 2) := by decide +kernel
theorem dX12_areNumbers_28 : decode cX12_areNumbers 28 = .ok (.i2l, 1) := by decide +kernel
theorem dX12_areNumbers_29 : decode cX12_areNumbers 29 = .ok (.lconst 0, 1) := by decide +kernel
theorem dX12_areNumbers_30 : decode cX12_areNumbers 30 = .ok (.lconst 1, 1) := by decide +kernel
theorem dX12_areNumbers_31 : decode cX12_areNumbers 31 = .ok (.invokestatic 166, 3) := by decide +kernel
theorem dX12_areNumbers_34 : decode cX12_areNumbers 34 = .ok (.ifCond .eq 7, 3) := by decide +kernel
theorem dX12_areNumbers_37 : decode cX12_areNumbers 37 = .ok (.iconst 1, 1) := by decide +kernel
theorem dX12_areNumbers_38 : decode cX12_areNumbers 38 = .ok (.goto 4, 3) := by decide +kernel
theorem dX12_areNumbers_41 : decode cX12_areNumbers 41 = .ok (.iconst 0, 1) := by decide +kernel
theorem dX12_areNumbers_42 : decode cX12_areNumbers 42 = .ok (.ireturn, 1) := by decide +kernel
theorem dX12_areNumbers_43 : decode cX12_areNumbers 43 = .ok (.aload_n 0, 1) := by decide +kernel
theorem dX12_areNumbers_44 : decode cX12_areNumbers 44 = .ok (.iload_n 2, 1) := by decide +kernel
theorem dX12_areNumbers_45 : decode cX12_areNumbers 45 = .ok (.invokevirtual 180, 3) := by decide +kernel
theorem dX12_areNumbers_48 : decode cX12_areNumbers 48 = .ok (.ifCond .eq 33, 3) := by decide +kernel
theorem dX12_areNumbers_51 : decode cX12_areNumbers 51 = .ok (.aload_n 0, 1) := by decide +kernel
theorem dX12_areNumbers_52 : decode cX12_areNumbers 52 = .ok (.iload_n 3, 1) := by decide +kernel
theorem dX12_areNumbers_53 : decode cX12_areNumbers 53 = .ok (.invokevirtual 180, 3) := by decide +kernel
theorem dX12_areNumbers_56 : decode cX12_areNumbers 56 = .ok (.ifCond .eq 25, 3) := by decide +kernel
theorem dX12_areNumbers_59 : decode cX12_areNumbers 59 = .ok (.iload_n 1, 1) := by decide +kernel
theorem dX12_areNumbers_60 : decode cX12_areNumbers 60 = .ok (.iconst 5, 1) := by decide +kernel
theorem dX12_areNumbers_61 : decode cX12_areNumbers 61 = .ok (.if_icmp .ne 16, 3) := by decide +kernel
theorem dX12_areNumbers_64 : decode cX12_areNumbers 64 = .ok (.iload 4, 2) := by decide +kernel
theorem dX12_areNumbers_66 : decode cX12_areNumbers 66 = .ok (.i2l, 1) := by decide +kernel
theorem dX12_areNumbers_67 : decode cX12_areNumbers 67 = .ok (.lconst 0, 1) := by decide +kernel
theorem dX12_areNumbers_68 : decode cX12_areNumbers 68 = .ok (.ldc2_w 197, 3) := by decide +kernel
theorem dX12_areNumbers_71 : decode cX12_areNumbers 71 = .ok (.invokestatic 166, 3) := by decide +kernel
theorem dX12_areNumbers_74 : decode cX12_areNumbers 74 = .ok (.ifCond .eq 7, 3) := by decide +kernel
theorem dX12_areNumbers_77 : decode cX12_areNumbers 77 = .ok (.iconst 1, 1) := by decide +kernel
theorem dX12_areNumbers_78 : decode cX12_areNumbers 78 = .ok (.goto 4, 3) := by decide +kernel
theorem dX12_areNumbers_81 : decode cX12_areNumbers 81 = .ok (.iconst 0, 1) := by decide +kernel
theorem dX12_areNumbers_82 : decode cX12_areNumbers 82 = .ok (.ireturn, 1) := by decide +kernel
theorem dX12_fitsLeft_0 : decode cX12_fitsLeft 0 = .ok (.iload_n 1, 1) := by decide +kernel
theorem dX12_fitsLeft_1 : decode cX12_fitsLeft 1 = .ok (.tableswitch 63 0 6 #[43, 43, 63, 63, 63, 49, 56], 43) := by decide +kernel
theorem dX12_fitsLeft_44 : decode cX12_fitsLeft 44 = .ok (.aload_n 0, 1) := by decide +kernel
theorem dX12_fitsLeft_45 : decode cX12_fitsLeft 45 = .ok (.iload_n 2, 1) := by decide +kernel
theorem dX12_fitsLeft_46 : decode cX12_fitsLeft 46 = .ok (.invokevirtual 188, 3) := by decide +kernel
theorem dX12_fitsLeft_49 : decode cX12_fitsLeft 49 = .ok (.ireturn, 1) := by decide +kernel
theorem dX12_fitsLeft_50 : decode cX12_fitsLeft 50 = .ok (.aload_n 0, 1) := by decide +kernel
theorem dX12_fitsLeft_51 : decode cX12_fitsLeft 51 = .ok (.iload_n 2, 1) := by decide +kernel
theorem dX12_fitsLeft_52 : decode cX12_fitsLeft 52 = .ok (.iconst 0, 1) := by decide +kernel
theorem dX12_fitsLeft_53 : decode cX12_fitsLeft 53 = .ok (.invokevirtual 184, 3) := by decide +kernel
theorem dX12_fitsLeft_56 : decode cX12_fitsLeft 56 = .ok (.ireturn, 1) := by decide +kernel
theorem dX12_fitsLeft_57 : decode cX12_fitsLeft 57 = .ok (.aload_n 0, 1) := by decide +kernel
theorem dX12_fitsLeft_58 : decode cX12_fitsLeft 58 = .ok (.iload_n 2, 1) := by decide +kernel
theorem dX12_fitsLeft_59 : decode cX12_fitsLeft 59 = .ok (.iload_n 3, 1) := by decide +kernel
theorem dX12_fitsLeft_60 : decode cX12_fitsLeft 60 = .ok (.invokevirtual 199, 3) := by decide +kernel
theorem dX12_fitsLeft_63 : decode cX12_fitsLeft 63 = .ok (.ireturn, 1) := by decide +kernel
theorem dX12_fitsLeft_64 : decode cX12_fitsLeft 64 = .ok (.aload_n 0, 1) := by decide +kernel
theorem dX12_fitsLeft_65 : decode cX12_fitsLeft 65 = .ok (.iload_n 2, 1) := by decide +kernel
theorem dX12_fitsLeft_66 : decode cX12_fitsLeft 66 = .ok (.invokevirtual 194, 3) := by decide +kernel
theorem dX12_fitsLeft_69 : decode cX12_fitsLeft 69 = .ok (.ireturn, 1) := by decide +kernel
theorem dX12_fitsRight_0 : decode cX12_fitsRight 0 = .ok (.iload_n 1, 1) := by decide +kernel
theorem dX12_fitsRight_1 : decode cX12_fitsRight 1 = .ok (.tableswitch 122 0 7 #[47, 71, 78, 78, 85, 92, 122, 116], 47) := by decide +kernel
theorem dX12_fitsRight_48 : decode cX12_fitsRight 48 = .ok (.aload_n 0, 1) := by decide +kernel
theorem dX12_fitsRight_49 : decode cX12_fitsRight 49 = .ok (.iload_n 2, 1) := by decide +kernel
theorem dX12_fitsRight_50 : decode cX12_fitsRight 50 = .ok (.iconst 0, 1) := by decide +kernel
theorem dX12_fitsRight_51 : decode cX12_fitsRight 51 = .ok (.invokevirtual 184, 3) := by decide +kernel
theorem dX12_fitsRight_54 : decode cX12_fitsRight 54 = .ok (.ifCond .ne 12, 3) := by decide +kernel
theorem dX12_fitsRight_57 : decode cX12_fitsRight 57 = .ok (.aload_n 0, 1) := by decide +kernel
theorem dX12_fitsRight_58 : decode cX12_fitsRight 58 = .ok (.iload_n 2, 1) := by decide +kernel
theorem dX12_fitsRight_59 : decode cX12_fitsRight 59 = .ok (.iconst 3, 1) := by decide +kernel
theorem dX12_fitsRight_60 : decode cX12_fitsRight 60 = .ok (.invokevirtual 184, 3) := by decide +kernel
theorem dX12_fitsRight_63 : decode cX12_fitsRight 63 = .ok (.ifCond .eq 7, 3) := by decide +kernel
theorem dX12_fitsRight_66 : decode cX12_fitsRight 66 = .ok (.iconst 1, 1) := by decide +kernel
theorem dX12_fitsRight_67 : decode cX12_fitsRight 67 = .ok (.goto 4, 3) := by decide +kernel
theorem dX12_fitsRight_70 : decode cX12_fitsRight 70 = .ok (.iconst 0, 1) := by decide +kernel
theorem dX12_fitsRight_71 : decode cX12_fitsRight 71 = .ok (.ireturn, 1) := by decide +kernel
theorem dX12_fitsRight_72 : decode cX12_fitsRight 72 = .ok (.aload_n 0, 1) := by decide +kernel
theorem dX12_fitsRight_73 : decode cX12_fitsRight 73 = .ok (.iload_n 2, 1) := by decide +kernel
theorem dX12_fitsRight_74 : decode cX12_fitsRight 74 = .ok (.iconst 4, 1) := by decide +kernel
theorem dX12_fitsRight_75 : decode cX12_fitsRight 75 = .ok (.invokevirtual 184, 3) := by decide +kernel
theorem dX12_fitsRight_78 : decode cX12_fitsRight 78 = .ok (.ireturn, 1) := by decide +kernel
theorem dX12_fitsRight_79 : decode cX12_fitsRight 79 = .ok (.aload_n 0, 1) := by decide +kernel
theorem dX12_fitsRight_80 : decode cX12_fitsRight 80 = .ok (.iload_n 2, 1) := by decide +kernel
theorem dX12_fitsRight_81 : decode cX12_fitsRight 81 = .ok (.iconst 5, 1) := by decide +kernel
theorem dX12_fitsRight_82 : decode cX12_fitsRight 82 = .ok (.invokevirtual 184, 3) := by decide +kernel
theorem dX12_fitsRight_85 : decode cX12_fitsRight 85 = .ok (.ireturn, 1) := by decide +kernel
theorem dX12_fitsRight_86 : decode cX12_fitsRight 86 = .ok (.aload_n 0, 1) := by decide +kernel
theorem dX12_fitsRight_87 : decode cX12_fitsRight 87 = .ok (.iload_n 2, 1) := by decide +kernel
theorem dX12_fitsRight_88 : decode cX12_fitsRight 88 = .ok (.iconst 1, 1) := by decide +kernel
theorem dX12_fitsRight_89 : decode cX12_fitsRight 89 = .ok (.invokevirtual 184, 3) := by decide +kernel
theorem dX12_fitsRight_92 : decode cX12_fitsRight 92 = .ok (.ireturn, 1) := by decide +kernel
theorem dX12_fitsRight_93 : decode cX12_fitsRight 93 = .ok (.aload_n 0, 1) := by decide +kernel
theorem dX12_fitsRight_94 : decode cX12_fitsRight 94 = .ok (.iload_n 2, 1) := by decide +kernel
theorem dX12_fitsRight_95 : decode cX12_fitsRight 95 = .ok (.iconst 0, 1) := by decide +kernel
theorem dX12_fitsRight_96 : decode cX12_fitsRight 96 = .ok (.invokevirtual 184, 3) := by decide +kernel
theorem dX12_fitsRight_99 : decode cX12_fitsRight 99 = .ok (.ifCond .ne 12, 3) := by decide +kernel
theorem dX12_fitsRight_102 : decode cX12_fitsRight 102 = .ok (.aload_n 0, 1) := by decide +kernel
theorem dX12_fitsRight_103 : decode cX12_fitsRight 103 = .ok (.iload_n 2, 1) := by decide +kernel
theorem dX12_fitsRight_104 : decode cX12_fitsRight 104 = .ok (.iconst 2, 1) := by decide +kernel
theorem dX12_fitsRight_105 : decode cX12_fitsRight 105 = .ok (.invokevirtual 184, 3) := by decide +kernel
theorem dX12_fitsRight_108 : decode cX12_fitsRight 108 = .ok (.ifCond .eq 7, 3) := by decide +kernel
theorem dX12_fitsRight_111 : decode cX12_fitsRight 111 = .ok (.iconst 1, 1) := by decide +kernel
theorem dX12_fitsRight_112 : decode cX12_fitsRight 112 = .ok (.goto 4, 3) := by decide +kernel
theorem dX12_fitsRight_115 : decode cX12_fitsRight 115 = .ok (.iconst 0, 1) := by decide +kernel
theorem dX12_fitsRight_116 : decode cX12_fitsRight 116 = .ok (.ireturn, 1) := by decide +kernel
theorem dX12_fitsRight_117 : decode cX12_fitsRight 117 = .ok (.aload_n 0, 1) := by decide +kernel
theorem dX12_fitsRight_118 : decode cX12_fitsRight 118 = .ok (.iload_n 2, 1) := by decide +kernel
theorem dX12_fitsRight_119 : decode cX12_fitsRight 119 = .ok (.invokevirtual 191, 3) := by decide +kernel
theorem dX12_fitsRight_122 : decode cX12_fitsRight 122 = .ok (.ireturn, 1) := by decide +kernel
theorem dX12_fitsRight_123 : decode cX12_fitsRight 123 = .ok (.iconst 1, 1) := by decide +kernel
theorem dX12_fitsRight_124 : decode cX12_fitsRight 124 = .ok (.ireturn, 1) := by decide +kernel
theorem dX12_saidSo_0 : decode cX12_saidSo 0 = .ok (.iconst 0, 1) := by decide +kernel
theorem dX12_saidSo_1 : decode cX12_saidSo 1 = .ok (.istore 5, 2) := by decide +kernel
theorem dX12_saidSo_3 : decode cX12_saidSo 3 = .ok (.iload 5, 2) := by decide +kernel
theorem dX12_saidSo_5 : decode cX12_saidSo 5 = .ok (.aload_n 0, 1) := by decide +kernel
theorem dX12_saidSo_6 : decode cX12_saidSo 6 = .ok (.getfield 202, 3) := by decide +kernel
theorem dX12_saidSo_9 : decode cX12_saidSo 9 = .ok (.if_icmp .ge 67, 3) := by decide +kernel
theorem dX12_saidSo_12 : decode cX12_saidSo 12 = .ok (.aload_n 0, 1) := by decide +kernel
theorem dX12_saidSo_13 : decode cX12_saidSo 13 = .ok (.getfield 37, 3) := by decide +kernel
theorem dX12_saidSo_16 : decode cX12_saidSo 16 = .ok (.iload 5, 2) := by decide +kernel
theorem dX12_saidSo_18 : decode cX12_saidSo 18 = .ok (.baload, 1) := by decide +kernel
theorem dX12_saidSo_19 : decode cX12_saidSo 19 = .ok (.ifCond .eq 51, 3) := by decide +kernel
theorem dX12_saidSo_22 : decode cX12_saidSo 22 = .ok (.aload_n 0, 1) := by decide +kernel
theorem dX12_saidSo_23 : decode cX12_saidSo 23 = .ok (.getfield 25, 3) := by decide +kernel
theorem dX12_saidSo_26 : decode cX12_saidSo 26 = .ok (.iload 5, 2) := by decide +kernel
theorem dX12_saidSo_28 : decode cX12_saidSo 28 = .ok (.iaload, 1) := by decide +kernel
theorem dX12_saidSo_29 : decode cX12_saidSo 29 = .ok (.iload_n 1, 1) := by decide +kernel
theorem dX12_saidSo_30 : decode cX12_saidSo 30 = .ok (.if_icmp .ne 40, 3) := by decide +kernel
theorem dX12_saidSo_33 : decode cX12_saidSo 33 = .ok (.aload_n 0, 1) := by decide +kernel
theorem dX12_saidSo_34 : decode cX12_saidSo 34 = .ok (.getfield 28, 3) := by decide +kernel
theorem dX12_saidSo_37 : decode cX12_saidSo 37 = .ok (.iload 5, 2) := by decide +kernel
theorem dX12_saidSo_39 : decode cX12_saidSo 39 = .ok (.iaload, 1) := by decide +kernel
theorem dX12_saidSo_40 : decode cX12_saidSo 40 = .ok (.iload_n 2, 1) := by decide +kernel
theorem dX12_saidSo_41 : decode cX12_saidSo 41 = .ok (.if_icmp .ne 29, 3) := by decide +kernel
theorem dX12_saidSo_44 : decode cX12_saidSo 44 = .ok (.aload_n 0, 1) := by decide +kernel
theorem dX12_saidSo_45 : decode cX12_saidSo 45 = .ok (.getfield 31, 3) := by decide +kernel
theorem dX12_saidSo_48 : decode cX12_saidSo 48 = .ok (.iload 5, 2) := by decide +kernel
theorem dX12_saidSo_50 : decode cX12_saidSo 50 = .ok (.iaload, 1) := by decide +kernel
theorem dX12_saidSo_51 : decode cX12_saidSo 51 = .ok (.iload_n 3, 1) := by decide +kernel
theorem dX12_saidSo_52 : decode cX12_saidSo 52 = .ok (.if_icmp .ne 18, 3) := by decide +kernel
theorem dX12_saidSo_55 : decode cX12_saidSo 55 = .ok (.aload_n 0, 1) := by decide +kernel
theorem dX12_saidSo_56 : decode cX12_saidSo 56 = .ok (.getfield 34, 3) := by decide +kernel
theorem dX12_saidSo_59 : decode cX12_saidSo 59 = .ok (.iload 5, 2) := by decide +kernel
theorem dX12_saidSo_61 : decode cX12_saidSo 61 = .ok (.iaload, 1) := by decide +kernel
theorem dX12_saidSo_62 : decode cX12_saidSo 62 = .ok (.iload 4, 2) := by decide +kernel
theorem dX12_saidSo_64 : decode cX12_saidSo 64 = .ok (.if_icmp .ne 6, 3) := by decide +kernel
theorem dX12_saidSo_67 : decode cX12_saidSo 67 = .ok (.iload 5, 2) := by decide +kernel
theorem dX12_saidSo_69 : decode cX12_saidSo 69 = .ok (.ireturn, 1) := by decide +kernel
theorem dX12_saidSo_70 : decode cX12_saidSo 70 = .ok (.iinc 5 1, 3) := by decide +kernel
theorem dX12_saidSo_73 : decode cX12_saidSo 73 = .ok (.goto (-70), 3) := by decide +kernel
theorem dX12_saidSo_76 : decode cX12_saidSo 76 = .ok (.bipush (-9), 2) := by decide +kernel
theorem dX12_saidSo_78 : decode cX12_saidSo 78 = .ok (.ireturn, 1) := by decide +kernel
theorem dX12_clashes_0 : decode cX12_clashes 0 = .ok (.aload_n 0, 1) := by decide +kernel
theorem dX12_clashes_1 : decode cX12_clashes 1 = .ok (.getfield 41, 3) := by decide +kernel
theorem dX12_clashes_4 : decode cX12_clashes 4 = .ok (.aload_n 0, 1) := by decide +kernel
theorem dX12_clashes_5 : decode cX12_clashes 5 = .ok (.getfield 205, 3) := by decide +kernel
theorem dX12_clashes_8 : decode cX12_clashes 8 = .ok (.iload_n 1, 1) := by decide +kernel
theorem dX12_clashes_9 : decode cX12_clashes 9 = .ok (.iastore, 1) := by decide +kernel
theorem dX12_clashes_10 : decode cX12_clashes 10 = .ok (.aload_n 0, 1) := by decide +kernel
theorem dX12_clashes_11 : decode cX12_clashes 11 = .ok (.dup, 1) := by decide +kernel
theorem dX12_clashes_12 : decode cX12_clashes 12 = .ok (.getfield 205, 3) := by decide +kernel
theorem dX12_clashes_15 : decode cX12_clashes 15 = .ok (.iconst 1, 1) := by decide +kernel
theorem dX12_clashes_16 : decode cX12_clashes 16 = .ok (.iadd, 1) := by decide +kernel
theorem dX12_clashes_17 : decode cX12_clashes 17 = .ok (.putfield 205, 3) := by decide +kernel
theorem dX12_clashes_20 : decode cX12_clashes 20 = .ok (.return_, 1) := by decide +kernel
theorem dX12_placing_0 : decode cX12_placing 0 = .ok (.iconst 0, 1) := by decide +kernel
theorem dX12_placing_1 : decode cX12_placing 1 = .ok (.istore_n 2, 1) := by decide +kernel
theorem dX12_placing_2 : decode cX12_placing 2 = .ok (.iload_n 2, 1) := by decide +kernel
theorem dX12_placing_3 : decode cX12_placing 3 = .ok (.aload_n 0, 1) := by decide +kernel
theorem dX12_placing_4 : decode cX12_placing 4 = .ok (.getfield 202, 3) := by decide +kernel
theorem dX12_placing_7 : decode cX12_placing 7 = .ok (.if_icmp .ge 40, 3) := by decide +kernel
theorem dX12_placing_10 : decode cX12_placing 10 = .ok (.aload_n 0, 1) := by decide +kernel
theorem dX12_placing_11 : decode cX12_placing 11 = .ok (.getfield 37, 3) := by decide +kernel
theorem dX12_placing_14 : decode cX12_placing 14 = .ok (.iload_n 2, 1) := by decide +kernel
theorem dX12_placing_15 : decode cX12_placing 15 = .ok (.baload, 1) := by decide +kernel
theorem dX12_placing_16 : decode cX12_placing 16 = .ok (.ifCond .eq 25, 3) := by decide +kernel
theorem dX12_placing_19 : decode cX12_placing 19 = .ok (.aload_n 0, 1) := by decide +kernel
theorem dX12_placing_20 : decode cX12_placing 20 = .ok (.getfield 25, 3) := by decide +kernel
theorem dX12_placing_23 : decode cX12_placing 23 = .ok (.iload_n 2, 1) := by decide +kernel
theorem dX12_placing_24 : decode cX12_placing 24 = .ok (.iaload, 1) := by decide +kernel
theorem dX12_placing_25 : decode cX12_placing 25 = .ok (.iconst 5, 1) := by decide +kernel
theorem dX12_placing_26 : decode cX12_placing 26 = .ok (.if_icmp .ge 15, 3) := by decide +kernel
theorem dX12_placing_29 : decode cX12_placing 29 = .ok (.aload_n 0, 1) := by decide +kernel
theorem dX12_placing_30 : decode cX12_placing 30 = .ok (.getfield 28, 3) := by decide +kernel
theorem dX12_placing_33 : decode cX12_placing 33 = .ok (.iload_n 2, 1) := by decide +kernel
theorem dX12_placing_34 : decode cX12_placing 34 = .ok (.iaload, 1) := by decide +kernel
theorem dX12_placing_35 : decode cX12_placing 35 = .ok (.iload_n 1, 1) := by decide +kernel
theorem dX12_placing_36 : decode cX12_placing 36 = .ok (.if_icmp .ne 5, 3) := by decide +kernel
theorem dX12_placing_39 : decode cX12_placing 39 = .ok (.iload_n 2, 1) := by decide +kernel
theorem dX12_placing_40 : decode cX12_placing 40 = .ok (.ireturn, 1) := by decide +kernel
theorem dX12_placing_41 : decode cX12_placing 41 = .ok (.iinc 2 1, 3) := by decide +kernel
theorem dX12_placing_44 : decode cX12_placing 44 = .ok (.goto (-42), 3) := by decide +kernel
theorem dX12_placing_47 : decode cX12_placing 47 = .ok (.bipush (-9), 2) := by decide +kernel
theorem dX12_placing_49 : decode cX12_placing 49 = .ok (.ireturn, 1) := by decide +kernel
theorem dX12_isPlaceBarred_0 : decode cX12_isPlaceBarred 0 = .ok (.aload_n 0, 1) := by decide +kernel
theorem dX12_isPlaceBarred_1 : decode cX12_isPlaceBarred 1 = .ok (.iload_n 2, 1) := by decide +kernel
theorem dX12_isPlaceBarred_2 : decode cX12_isPlaceBarred 2 = .ok (.invokevirtual 208, 3) := by decide +kernel
theorem dX12_isPlaceBarred_5 : decode cX12_isPlaceBarred 5 = .ok (.istore 4, 2) := by decide +kernel
theorem dX12_isPlaceBarred_7 : decode cX12_isPlaceBarred 7 = .ok (.iload 4, 2) := by decide +kernel
theorem dX12_isPlaceBarred_9 : decode cX12_isPlaceBarred 9 = .ok (.bipush (-9), 2) := by decide +kernel
theorem dX12_isPlaceBarred_11 : decode cX12_isPlaceBarred 11 = .ok (.if_icmp .eq 11, 3) := by decide +kernel
theorem dX12_isPlaceBarred_14 : decode cX12_isPlaceBarred 14 = .ok (.aload_n 0, 1) := by decide +kernel
theorem dX12_isPlaceBarred_15 : decode cX12_isPlaceBarred 15 = .ok (.iload 4, 2) := by decide +kernel
theorem dX12_isPlaceBarred_17 : decode cX12_isPlaceBarred 17 = .ok (.invokevirtual 212, 3) := by decide +kernel
theorem dX12_isPlaceBarred_20 : decode cX12_isPlaceBarred 20 = .ok (.iconst 1, 1) := by decide +kernel
theorem dX12_isPlaceBarred_21 : decode cX12_isPlaceBarred 21 = .ok (.ireturn, 1) := by decide +kernel
theorem dX12_isPlaceBarred_22 : decode cX12_isPlaceBarred 22 = .ok (.iload_n 3, 1) := by decide +kernel
theorem dX12_isPlaceBarred_23 : decode cX12_isPlaceBarred 23 = .ok (.istore 5, 2) := by decide +kernel
theorem dX12_isPlaceBarred_25 : decode cX12_isPlaceBarred 25 = .ok (.iload 5, 2) := by decide +kernel
theorem dX12_isPlaceBarred_27 : decode cX12_isPlaceBarred 27 = .ok (.iload_n 2, 1) := by decide +kernel
theorem dX12_isPlaceBarred_28 : decode cX12_isPlaceBarred 28 = .ok (.if_icmp .eq 40, 3) := by decide +kernel
theorem dX12_isPlaceBarred_31 : decode cX12_isPlaceBarred 31 = .ok (.aload_n 0, 1) := by decide +kernel
theorem dX12_isPlaceBarred_32 : decode cX12_isPlaceBarred 32 = .ok (.iload 5, 2) := by decide +kernel
theorem dX12_isPlaceBarred_34 : decode cX12_isPlaceBarred 34 = .ok (.invokevirtual 208, 3) := by decide +kernel
theorem dX12_isPlaceBarred_37 : decode cX12_isPlaceBarred 37 = .ok (.bipush (-9), 2) := by decide +kernel
theorem dX12_isPlaceBarred_39 : decode cX12_isPlaceBarred 39 = .ok (.if_icmp .eq 29, 3) := by decide +kernel
theorem dX12_isPlaceBarred_42 : decode cX12_isPlaceBarred 42 = .ok (.aload_n 0, 1) := by decide +kernel
theorem dX12_isPlaceBarred_43 : decode cX12_isPlaceBarred 43 = .ok (.aload_n 0, 1) := by decide +kernel
theorem dX12_isPlaceBarred_44 : decode cX12_isPlaceBarred 44 = .ok (.iload 5, 2) := by decide +kernel
theorem dX12_isPlaceBarred_46 : decode cX12_isPlaceBarred 46 = .ok (.invokevirtual 208, 3) := by decide +kernel
theorem dX12_isPlaceBarred_49 : decode cX12_isPlaceBarred 49 = .ok (.invokevirtual 212, 3) := by decide +kernel
theorem dX12_isPlaceBarred_52 : decode cX12_isPlaceBarred 52 = .ok (.aload_n 0, 1) := by decide +kernel
theorem dX12_isPlaceBarred_53 : decode cX12_isPlaceBarred 53 = .ok (.getfield 31, 3) := by decide +kernel
theorem dX12_isPlaceBarred_56 : decode cX12_isPlaceBarred 56 = .ok (.aload_n 0, 1) := by decide +kernel
theorem dX12_isPlaceBarred_57 : decode cX12_isPlaceBarred 57 = .ok (.iload 5, 2) := by decide +kernel
theorem dX12_isPlaceBarred_59 : decode cX12_isPlaceBarred 59 = .ok (.invokevirtual 208, 3) := by decide +kernel
theorem dX12_isPlaceBarred_62 : decode cX12_isPlaceBarred 62 = .ok (.iaload, 1) := by decide +kernel
theorem dX12_isPlaceBarred_63 : decode cX12_isPlaceBarred 63 = .ok (.istore 5, 2) := by decide +kernel
theorem dX12_isPlaceBarred_65 : decode cX12_isPlaceBarred 65 = .ok (.goto (-40), 3) := by decide +kernel
theorem dX12_isPlaceBarred_68 : decode cX12_isPlaceBarred 68 = .ok (.iload 5, 2) := by decide +kernel
theorem dX12_isPlaceBarred_70 : decode cX12_isPlaceBarred 70 = .ok (.iload_n 2, 1) := by decide +kernel
theorem dX12_isPlaceBarred_71 : decode cX12_isPlaceBarred 71 = .ok (.if_icmp .ne 5, 3) := by decide +kernel
theorem dX12_isPlaceBarred_74 : decode cX12_isPlaceBarred 74 = .ok (.iconst 1, 1) := by decide +kernel
theorem dX12_isPlaceBarred_75 : decode cX12_isPlaceBarred 75 = .ok (.ireturn, 1) := by decide +kernel
theorem dX12_isPlaceBarred_76 : decode cX12_isPlaceBarred 76 = .ok (.aload_n 0, 1) := by decide +kernel
theorem dX12_isPlaceBarred_77 : decode cX12_isPlaceBarred 77 = .ok (.iconst 0, 1) := by decide +kernel
theorem dX12_isPlaceBarred_78 : decode cX12_isPlaceBarred 78 = .ok (.putfield 205, 3) := by decide +kernel
theorem dX12_isPlaceBarred_81 : decode cX12_isPlaceBarred 81 = .ok (.iload_n 1, 1) := by decide +kernel
theorem dX12_isPlaceBarred_82 : decode cX12_isPlaceBarred 82 = .ok (.iconst 3, 1) := by decide +kernel
theorem dX12_isPlaceBarred_83 : decode cX12_isPlaceBarred 83 = .ok (.if_icmp .ne 15, 3) := by decide +kernel
theorem dX12_isPlaceBarred_86 : decode cX12_isPlaceBarred 86 = .ok (.aload_n 0, 1) := by decide +kernel
theorem dX12_isPlaceBarred_87 : decode cX12_isPlaceBarred 87 = .ok (.bipush 6, 2) := by decide +kernel
theorem dX12_isPlaceBarred_89 : decode cX12_isPlaceBarred 89 = .ok (.iload_n 2, 1) := by decide +kernel
theorem dX12_isPlaceBarred_90 : decode cX12_isPlaceBarred 90 = .ok (.iconst 4, 1) := by decide +kernel
theorem dX12_isPlaceBarred_91 : decode cX12_isPlaceBarred 91 = .ok (.iconst 0, 1) := by decide +kernel
theorem dX12_isPlaceBarred_92 : decode cX12_isPlaceBarred 92 = .ok (.invokevirtual 216, 3) := by decide +kernel
theorem dX12_isPlaceBarred_95 : decode cX12_isPlaceBarred 95 = .ok (.goto 5, 3) := by decide +kernel
theorem dX12_isPlaceBarred_98 : decode cX12_isPlaceBarred 98 = .ok (.bipush (-9), 2) := by decide +kernel
theorem dX12_isPlaceBarred_100 : decode cX12_isPlaceBarred 100 = .ok (.istore 6, 2) := by decide +kernel
theorem dX12_isPlaceBarred_102 : decode cX12_isPlaceBarred 102 = .ok (.iload 6, 2) := by decide +kernel
theorem dX12_isPlaceBarred_104 : decode cX12_isPlaceBarred 104 = .ok (.bipush (-9), 2) := by decide +kernel
theorem dX12_isPlaceBarred_106 : decode cX12_isPlaceBarred 106 = .ok (.if_icmp .eq 9, 3) := by decide +kernel
theorem dX12_isPlaceBarred_109 : decode cX12_isPlaceBarred 109 = .ok (.aload_n 0, 1) := by decide +kernel
theorem dX12_isPlaceBarred_110 : decode cX12_isPlaceBarred 110 = .ok (.iload 6, 2) := by decide +kernel
theorem dX12_isPlaceBarred_112 : decode cX12_isPlaceBarred 112 = .ok (.invokevirtual 212, 3) := by decide +kernel
theorem dX12_isPlaceBarred_115 : decode cX12_isPlaceBarred 115 = .ok (.iload 6, 2) := by decide +kernel
theorem dX12_isPlaceBarred_117 : decode cX12_isPlaceBarred 117 = .ok (.bipush (-9), 2) := by decide +kernel
theorem dX12_isPlaceBarred_119 : decode cX12_isPlaceBarred 119 = .ok (.if_icmp .eq 7, 3) := by decide +kernel
theorem dX12_isPlaceBarred_122 : decode cX12_isPlaceBarred 122 = .ok (.iconst 1, 1) := by decide +kernel
theorem dX12_isPlaceBarred_123 : decode cX12_isPlaceBarred 123 = .ok (.goto 4, 3) := by decide +kernel
theorem dX12_isPlaceBarred_126 : decode cX12_isPlaceBarred 126 = .ok (.iconst 0, 1) := by decide +kernel
theorem dX12_isPlaceBarred_127 : decode cX12_isPlaceBarred 127 = .ok (.ireturn, 1) := by decide +kernel
theorem dX12_isExitBarred_0 : decode cX12_isExitBarred 0 = .ok (.iconst 0, 1) := by decide +kernel
