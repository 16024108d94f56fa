theorem dX11_share_92 : decode cX11_share 92 = .ok (.i2l, 1) := by decide +kernel
theorem dX11_share_93 : decode cX11_share 93 = .ok (.ldiv, 1) := by decide +kernel
theorem dX11_share_94 : decode cX11_share 94 = .ok (.putfield 76, 3) := by decide +kernel
theorem dX11_share_97 : decode cX11_share 97 = .ok (.iconst 1, 1) := by decide +kernel
theorem dX11_share_98 : decode cX11_share 98 = .ok (.ireturn, 1) := by decide +kernel
theorem dX11_say_0 : decode cX11_say 0 = .ok (.aload_n 0, 1) := by decide +kernel
theorem dX11_say_1 : decode cX11_say 1 = .ok (.getfield 21, 3) := by decide +kernel
theorem dX11_say_4 : decode cX11_say 4 = .ok (.invokevirtual 153, 3) := by decide +kernel
theorem dX11_say_7 : decode cX11_say 7 = .ok (.aload_n 0, 1) := by decide +kernel
theorem dX11_say_8 : decode cX11_say 8 = .ok (.getfield 21, 3) := by decide +kernel
theorem dX11_say_11 : decode cX11_say 11 = .ok (.iload_n 1, 1) := by decide +kernel
theorem dX11_say_12 : decode cX11_say 12 = .ok (.iload_n 2, 1) := by decide +kernel
theorem dX11_say_13 : decode cX11_say 13 = .ok (.iload_n 3, 1) := by decide +kernel
theorem dX11_say_14 : decode cX11_say 14 = .ok (.iload 4, 2) := by decide +kernel
theorem dX11_say_16 : decode cX11_say 16 = .ok (.invokevirtual 156, 3) := by decide +kernel
theorem dX11_say_19 : decode cX11_say 19 = .ok (.ifCond .ne 5, 3) := by decide +kernel
theorem dX11_say_22 : decode cX11_say 22 = .ok (.iconst (-1), 1) := by decide +kernel
theorem dX11_say_23 : decode cX11_say 23 = .ok (.ireturn, 1) := by decide +kernel
theorem dX11_say_24 : decode cX11_say 24 = .ok (.iload_n 1, 1) := by decide +kernel
theorem dX11_say_25 : decode cX11_say 25 = .ok (.iconst 5, 1) := by decide +kernel
theorem dX11_say_26 : decode cX11_say 26 = .ok (.if_icmp .eq 9, 3) := by decide +kernel
theorem dX11_say_29 : decode cX11_say 29 = .ok (.iload_n 1, 1) := by decide +kernel
theorem dX11_say_30 : decode cX11_say 30 = .ok (.bipush 6, 2) := by decide +kernel
theorem dX11_say_32 : decode cX11_say 32 = .ok (.if_icmp .ne 8, 3) := by decide +kernel
theorem dX11_say_35 : decode cX11_say 35 = .ok (.iload 4, 2) := by decide +kernel
theorem dX11_say_37 : decode cX11_say 37 = .ok (.goto 4, 3) := by decide +kernel
theorem dX11_say_40 : decode cX11_say 40 = .ok (.iconst 0, 1) := by decide +kernel
theorem dX11_say_41 : decode cX11_say 41 = .ok (.istore 5, 2) := by decide +kernel
theorem dX11_say_43 : decode cX11_say 43 = .ok (.aload_n 0, 1) := by decide +kernel
theorem dX11_say_44 : decode cX11_say 44 = .ok (.getfield 21, 3) := by decide +kernel
theorem dX11_say_47 : decode cX11_say 47 = .ok (.iload_n 1, 1) := by decide +kernel
theorem dX11_say_48 : decode cX11_say 48 = .ok (.iload_n 2, 1) := by decide +kernel
theorem dX11_say_49 : decode cX11_say 49 = .ok (.iload_n 3, 1) := by decide +kernel
theorem dX11_say_50 : decode cX11_say 50 = .ok (.invokevirtual 160, 3) := by decide +kernel
theorem dX11_say_53 : decode cX11_say 53 = .ok (.ifCond .ne 9, 3) := by decide +kernel
theorem dX11_say_56 : decode cX11_say 56 = .ok (.aload_n 0, 1) := by decide +kernel
theorem dX11_say_57 : decode cX11_say 57 = .ok (.iconst 3, 1) := by decide +kernel
theorem dX11_say_58 : decode cX11_say 58 = .ok (.invokevirtual 128, 3) := by decide +kernel
theorem dX11_say_61 : decode cX11_say 61 = .ok (.ireturn, 1) := by decide +kernel
theorem dX11_say_62 : decode cX11_say 62 = .ok (.aload_n 0, 1) := by decide +kernel
theorem dX11_say_63 : decode cX11_say 63 = .ok (.getfield 21, 3) := by decide +kernel
theorem dX11_say_66 : decode cX11_say 66 = .ok (.iload_n 1, 1) := by decide +kernel
theorem dX11_say_67 : decode cX11_say 67 = .ok (.iload_n 2, 1) := by decide +kernel
theorem dX11_say_68 : decode cX11_say 68 = .ok (.iload_n 3, 1) := by decide +kernel
theorem dX11_say_69 : decode cX11_say 69 = .ok (.iload 5, 2) := by decide +kernel
theorem dX11_say_71 : decode cX11_say 71 = .ok (.invokevirtual 164, 3) := by decide +kernel
theorem dX11_say_74 : decode cX11_say 74 = .ok (.istore 6, 2) := by decide +kernel
theorem dX11_say_76 : decode cX11_say 76 = .ok (.iload 6, 2) := by decide +kernel
theorem dX11_say_78 : decode cX11_say 78 = .ok (.bipush (-9), 2) := by decide +kernel
theorem dX11_say_80 : decode cX11_say 80 = .ok (.if_icmp .eq 6, 3) := by decide +kernel
theorem dX11_say_83 : decode cX11_say 83 = .ok (.iload 6, 2) := by decide +kernel
theorem dX11_say_85 : decode cX11_say 85 = .ok (.ireturn, 1) := by decide +kernel
theorem dX11_say_86 : decode cX11_say 86 = .ok (.aload_n 0, 1) := by decide +kernel
theorem dX11_say_87 : decode cX11_say 87 = .ok (.getfield 21, 3) := by decide +kernel
theorem dX11_say_90 : decode cX11_say 90 = .ok (.getfield 168, 3) := by decide +kernel
theorem dX11_say_93 : decode cX11_say 93 = .ok (.sipush 200, 3) := by decide +kernel
theorem dX11_say_96 : decode cX11_say 96 = .ok (.if_icmp .lt 6, 3) := by decide +kernel
theorem dX11_say_99 : decode cX11_say 99 = .ok (.bipush (-2), 2) := by decide +kernel
theorem dX11_say_101 : decode cX11_say 101 = .ok (.ireturn, 1) := by decide +kernel
theorem dX11_say_102 : decode cX11_say 102 = .ok (.aload_n 0, 1) := by decide +kernel
theorem dX11_say_103 : decode cX11_say 103 = .ok (.getfield 21, 3) := by decide +kernel
theorem dX11_say_106 : decode cX11_say 106 = .ok (.iload_n 1, 1) := by decide +kernel
theorem dX11_say_107 : decode cX11_say 107 = .ok (.iload_n 2, 1) := by decide +kernel
theorem dX11_say_108 : decode cX11_say 108 = .ok (.iload_n 3, 1) := by decide +kernel
theorem dX11_say_109 : decode cX11_say 109 = .ok (.iload 5, 2) := by decide +kernel
theorem dX11_say_111 : decode cX11_say 111 = .ok (.invokevirtual 171, 3) := by decide +kernel
theorem dX11_say_114 : decode cX11_say 114 = .ok (.ifCond .eq 6, 3) := by decide +kernel
theorem dX11_say_117 : decode cX11_say 117 = .ok (.bipush (-4), 2) := by decide +kernel
theorem dX11_say_119 : decode cX11_say 119 = .ok (.ireturn, 1) := by decide +kernel
theorem dX11_say_120 : decode cX11_say 120 = .ok (.aload_n 0, 1) := by decide +kernel
theorem dX11_say_121 : decode cX11_say 121 = .ok (.getfield 46, 3) := by decide +kernel
theorem dX11_say_124 : decode cX11_say 124 = .ok (.invokevirtual 95, 3) := by decide +kernel
theorem dX11_say_127 : decode cX11_say 127 = .ok (.aload_n 0, 1) := by decide +kernel
theorem dX11_say_128 : decode cX11_say 128 = .ok (.getfield 21, 3) := by decide +kernel
theorem dX11_say_131 : decode cX11_say 131 = .ok (.iload_n 1, 1) := by decide +kernel
theorem dX11_say_132 : decode cX11_say 132 = .ok (.iload_n 2, 1) := by decide +kernel
theorem dX11_say_133 : decode cX11_say 133 = .ok (.iload_n 3, 1) := by decide +kernel
theorem dX11_say_134 : decode cX11_say 134 = .ok (.iload 5, 2) := by decide +kernel
theorem dX11_say_136 : decode cX11_say 136 = .ok (.invokevirtual 174, 3) := by decide +kernel
theorem dX11_say_139 : decode cX11_say 139 = .ok (.istore 7, 2) := by decide +kernel
theorem dX11_say_141 : decode cX11_say 141 = .ok (.aload_n 0, 1) := by decide +kernel
theorem dX11_say_142 : decode cX11_say 142 = .ok (.getfield 30, 3) := by decide +kernel
theorem dX11_say_145 : decode cX11_say 145 = .ok (.iload_n 1, 1) := by decide +kernel
theorem dX11_say_146 : decode cX11_say 146 = .ok (.invokevirtual 177, 3) := by decide +kernel
theorem dX11_say_149 : decode cX11_say 149 = .ok (.iload 7, 2) := by decide +kernel
theorem dX11_say_151 : decode cX11_say 151 = .ok (.ireturn, 1) := by decide +kernel
theorem dX11_unsay_0 : decode cX11_unsay 0 = .ok (.iload_n 1, 1) := by decide +kernel
theorem dX11_unsay_1 : decode cX11_unsay 1 = .ok (.aload_n 0, 1) := by decide +kernel
theorem dX11_unsay_2 : decode cX11_unsay 2 = .ok (.getfield 21, 3) := by decide +kernel
theorem dX11_unsay_5 : decode cX11_unsay 5 = .ok (.getfield 168, 3) := by decide +kernel
theorem dX11_unsay_8 : decode cX11_unsay 8 = .ok (.invokestatic 91, 3) := by decide +kernel
theorem dX11_unsay_11 : decode cX11_unsay 11 = .ok (.ifCond .eq 15, 3) := by decide +kernel
theorem dX11_unsay_14 : decode cX11_unsay 14 = .ok (.aload_n 0, 1) := by decide +kernel
theorem dX11_unsay_15 : decode cX11_unsay 15 = .ok (.getfield 21, 3) := by decide +kernel
theorem dX11_unsay_18 : decode cX11_unsay 18 = .ok (.getfield 181, 3) := by decide +kernel
theorem dX11_unsay_21 : decode cX11_unsay 21 = .ok (.iload_n 1, 1) := by decide +kernel
theorem dX11_unsay_22 : decode cX11_unsay 22 = .ok (.baload, 1) := by decide +kernel
theorem dX11_unsay_23 : decode cX11_unsay 23 = .ok (.ifCond .ne 5, 3) := by decide +kernel
theorem dX11_unsay_26 : decode cX11_unsay 26 = .ok (.iconst (-1), 1) := by decide +kernel
theorem dX11_unsay_27 : decode cX11_unsay 27 = .ok (.ireturn, 1) := by decide +kernel
theorem dX11_unsay_28 : decode cX11_unsay 28 = .ok (.aload_n 0, 1) := by decide +kernel
theorem dX11_unsay_29 : decode cX11_unsay 29 = .ok (.getfield 46, 3) := by decide +kernel
theorem dX11_unsay_32 : decode cX11_unsay 32 = .ok (.invokevirtual 95, 3) := by decide +kernel
theorem dX11_unsay_35 : decode cX11_unsay 35 = .ok (.aload_n 0, 1) := by decide +kernel
theorem dX11_unsay_36 : decode cX11_unsay 36 = .ok (.getfield 21, 3) := by decide +kernel
theorem dX11_unsay_39 : decode cX11_unsay 39 = .ok (.iload_n 1, 1) := by decide +kernel
theorem dX11_unsay_40 : decode cX11_unsay 40 = .ok (.invokevirtual 185, 3) := by decide +kernel
theorem dX11_unsay_43 : decode cX11_unsay 43 = .ok (.aload_n 0, 1) := by decide +kernel
theorem dX11_unsay_44 : decode cX11_unsay 44 = .ok (.getfield 30, 3) := by decide +kernel
theorem dX11_unsay_47 : decode cX11_unsay 47 = .ok (.aload_n 0, 1) := by decide +kernel
theorem dX11_unsay_48 : decode cX11_unsay 48 = .ok (.getfield 21, 3) := by decide +kernel
theorem dX11_unsay_51 : decode cX11_unsay 51 = .ok (.getfield 188, 3) := by decide +kernel
theorem dX11_unsay_54 : decode cX11_unsay 54 = .ok (.iload_n 1, 1) := by decide +kernel
theorem dX11_unsay_55 : decode cX11_unsay 55 = .ok (.iaload, 1) := by decide +kernel
theorem dX11_unsay_56 : decode cX11_unsay 56 = .ok (.invokevirtual 177, 3) := by decide +kernel
theorem dX11_unsay_59 : decode cX11_unsay 59 = .ok (.aload_n 0, 1) := by decide +kernel
theorem dX11_unsay_60 : decode cX11_unsay 60 = .ok (.getfield 21, 3) := by decide +kernel
theorem dX11_unsay_63 : decode cX11_unsay 63 = .ok (.getfield 191, 3) := by decide +kernel
theorem dX11_unsay_66 : decode cX11_unsay 66 = .ok (.ireturn, 1) := by decide +kernel
theorem dX11_clash_0 : decode cX11_clash 0 = .ok (.iload_n 1, 1) := by decide +kernel
theorem dX11_clash_1 : decode cX11_clash 1 = .ok (.aload_n 0, 1) := by decide +kernel
theorem dX11_clash_2 : decode cX11_clash 2 = .ok (.getfield 21, 3) := by decide +kernel
theorem dX11_clash_5 : decode cX11_clash 5 = .ok (.getfield 194, 3) := by decide +kernel
theorem dX11_clash_8 : decode cX11_clash 8 = .ok (.invokestatic 91, 3) := by decide +kernel
theorem dX11_clash_11 : decode cX11_clash 11 = .ok (.ifCond .eq 15, 3) := by decide +kernel
theorem dX11_clash_14 : decode cX11_clash 14 = .ok (.aload_n 0, 1) := by decide +kernel
theorem dX11_clash_15 : decode cX11_clash 15 = .ok (.getfield 21, 3) := by decide +kernel
theorem dX11_clash_18 : decode cX11_clash 18 = .ok (.getfield 197, 3) := by decide +kernel
theorem dX11_clash_21 : decode cX11_clash 21 = .ok (.iload_n 1, 1) := by decide +kernel
theorem dX11_clash_22 : decode cX11_clash 22 = .ok (.iaload, 1) := by decide +kernel
theorem dX11_clash_23 : decode cX11_clash 23 = .ok (.goto 5, 3) := by decide +kernel
theorem dX11_clash_26 : decode cX11_clash 26 = .ok (.bipush (-9), 2) := by decide +kernel
theorem dX11_clash_28 : decode cX11_clash 28 = .ok (.ireturn, 1) := by decide +kernel
theorem dX11_sentence_0 : decode cX11_sentence 0 = .ok (.iload_n 1, 1) := by decide +kernel
theorem dX11_sentence_1 : decode cX11_sentence 1 = .ok (.aload_n 0, 1) := by decide +kernel
theorem dX11_sentence_2 : decode cX11_sentence 2 = .ok (.getfield 21, 3) := by decide +kernel
theorem dX11_sentence_5 : decode cX11_sentence 5 = .ok (.getfield 168, 3) := by decide +kernel
theorem dX11_sentence_8 : decode cX11_sentence 8 = .ok (.invokestatic 91, 3) := by decide +kernel
theorem dX11_sentence_11 : decode cX11_sentence 11 = .ok (.ifCond .eq 11, 3) := by decide +kernel
theorem dX11_sentence_14 : decode cX11_sentence 14 = .ok (.iload_n 2, 1) := by decide +kernel
theorem dX11_sentence_15 : decode cX11_sentence 15 = .ok (.iconst 5, 1) := by decide +kernel
theorem dX11_sentence_16 : decode cX11_sentence 16 = .ok (.invokestatic 91, 3) := by decide +kernel
theorem dX11_sentence_19 : decode cX11_sentence 19 = .ok (.ifCond .ne 5, 3) := by decide +kernel
theorem dX11_sentence_22 : decode cX11_sentence 22 = .ok (.iconst (-1), 1) := by decide +kernel
theorem dX11_sentence_23 : decode cX11_sentence 23 = .ok (.ireturn, 1) := by decide +kernel
theorem dX11_sentence_24 : decode cX11_sentence 24 = .ok (.aload_n 0, 1) := by decide +kernel
theorem dX11_sentence_25 : decode cX11_sentence 25 = .ok (.getfield 21, 3) := by decide +kernel
theorem dX11_sentence_28 : decode cX11_sentence 28 = .ok (.iload_n 1, 1) := by decide +kernel
theorem dX11_sentence_29 : decode cX11_sentence 29 = .ok (.iload_n 2, 1) := by decide +kernel
theorem dX11_sentence_30 : decode cX11_sentence 30 = .ok (.invokevirtual 200, 3) := by decide +kernel
theorem dX11_sentence_33 : decode cX11_sentence 33 = .ok (.ireturn, 1) := by decide +kernel
theorem dX11_place_0 : decode cX11_place 0 = .ok (.aload_n 0, 1) := by decide +kernel
theorem dX11_place_1 : decode cX11_place 1 = .ok (.getfield 10, 3) := by decide +kernel
theorem dX11_place_4 : decode cX11_place 4 = .ok (.iload_n 1, 1) := by decide +kernel
theorem dX11_place_5 : decode cX11_place 5 = .ok (.invokevirtual 109, 3) := by decide +kernel
theorem dX11_place_8 : decode cX11_place 8 = .ok (.ifCond .eq 11, 3) := by decide +kernel
theorem dX11_place_11 : decode cX11_place 11 = .ok (.iload_n 2, 1) := by decide +kernel
theorem dX11_place_12 : decode cX11_place 12 = .ok (.iconst 3, 1) := by decide +kernel
theorem dX11_place_13 : decode cX11_place 13 = .ok (.invokestatic 91, 3) := by decide +kernel
theorem dX11_place_16 : decode cX11_place 16 = .ok (.ifCond .ne 5, 3) := by decide +kernel
theorem dX11_place_19 : decode cX11_place 19 = .ok (.iconst (-1), 1) := by decide +kernel
theorem dX11_place_20 : decode cX11_place 20 = .ok (.ireturn, 1) := by decide +kernel
theorem dX11_place_21 : decode cX11_place 21 = .ok (.iload_n 2, 1) := by decide +kernel
theorem dX11_place_22 : decode cX11_place 22 = .ok (.lookupswitch 54 #[(0, 26), (1, 40)], 26) := by decide +kernel
theorem dX11_place_48 : decode cX11_place 48 = .ok (.aload_n 0, 1) := by decide +kernel
theorem dX11_place_49 : decode cX11_place 49 = .ok (.getfield 21, 3) := by decide +kernel
theorem dX11_place_52 : decode cX11_place 52 = .ok (.getfield 203, 3) := by decide +kernel
theorem dX11_place_55 : decode cX11_place 55 = .ok (.iload_n 1, 1) := by decide +kernel
theorem dX11_place_56 : decode cX11_place 56 = .ok (.invokevirtual 206, 3) := by decide +kernel
theorem dX11_place_59 : decode cX11_place 59 = .ok (.goto 26, 3) := by decide +kernel
theorem dX11_place_62 : decode cX11_place 62 = .ok (.aload_n 0, 1) := by decide +kernel
theorem dX11_place_63 : decode cX11_place 63 = .ok (.getfield 21, 3) := by decide +kernel
theorem dX11_place_66 : decode cX11_place 66 = .ok (.getfield 203, 3) := by decide +kernel
theorem dX11_place_69 : decode cX11_place 69 = .ok (.iload_n 1, 1) := by decide +kernel
theorem dX11_place_70 : decode cX11_place 70 = .ok (.invokevirtual 211, 3) := by decide +kernel
theorem dX11_place_73 : decode cX11_place 73 = .ok (.goto 12, 3) := by decide +kernel
theorem dX11_place_76 : decode cX11_place 76 = .ok (.aload_n 0, 1) := by decide +kernel
theorem dX11_place_77 : decode cX11_place 77 = .ok (.getfield 21, 3) := by decide +kernel
theorem dX11_place_80 : decode cX11_place 80 = .ok (.getfield 214, 3) := by decide +kernel
theorem dX11_place_83 : decode cX11_place 83 = .ok (.iload_n 1, 1) := by decide +kernel
theorem dX11_place_84 : decode cX11_place 84 = .ok (.iaload, 1) := by decide +kernel
theorem dX11_place_85 : decode cX11_place 85 = .ok (.ireturn, 1) := by decide +kernel
theorem dX11_exit_0 : decode cX11_exit 0 = .ok (.aload_n 0, 1) := by decide +kernel
theorem dX11_exit_1 : decode cX11_exit 1 = .ok (.getfield 10, 3) := by decide +kernel
theorem dX11_exit_4 : decode cX11_exit 4 = .ok (.iload_n 1, 1) := by decide +kernel
theorem dX11_exit_5 : decode cX11_exit 5 = .ok (.invokevirtual 109, 3) := by decide +kernel
theorem dX11_exit_8 : decode cX11_exit 8 = .ok (.ifCond .eq 20, 3) := by decide +kernel
theorem dX11_exit_11 : decode cX11_exit 11 = .ok (.iload_n 2, 1) := by decide +kernel
theorem dX11_exit_12 : decode cX11_exit 12 = .ok (.bipush 10, 2) := by decide +kernel
theorem dX11_exit_14 : decode cX11_exit 14 = .ok (.invokestatic 91, 3) := by decide +kernel
theorem dX11_exit_17 : decode cX11_exit 17 = .ok (.ifCond .eq 11, 3) := by decide +kernel
theorem dX11_exit_20 : decode cX11_exit 20 = .ok (.iload_n 3, 1) := by decide +kernel
theorem dX11_exit_21 : decode cX11_exit 21 = .ok (.iconst 4, 1) := by decide +kernel
theorem dX11_exit_22 : decode cX11_exit 22 = .ok (.invokestatic 91, 3) := by decide +kernel
theorem dX11_exit_25 : decode cX11_exit 25 = .ok (.ifCond .ne 5, 3) := by decide +kernel
theorem dX11_exit_28 : decode cX11_exit 28 = .ok (.iconst (-1), 1) := by decide +kernel
theorem dX11_exit_29 : decode cX11_exit 29 = .ok (.ireturn, 1) := by decide +kernel
theorem dX11_exit_30 : decode cX11_exit 30 = .ok (.aload_n 0, 1) := by decide +kernel
theorem dX11_exit_31 : decode cX11_exit 31 = .ok (.getfield 10, 3) := by decide +kernel
theorem dX11_exit_34 : decode cX11_exit 34 = .ok (.iload_n 1, 1) := by decide +kernel
theorem dX11_exit_35 : decode cX11_exit 35 = .ok (.invokevirtual 125, 3) := by decide +kernel
theorem dX11_exit_38 : decode cX11_exit 38 = .ok (.ifCond .eq 9, 3) := by decide +kernel
theorem dX11_exit_41 : decode cX11_exit 41 = .ok (.aload_n 0, 1) := by decide +kernel
theorem dX11_exit_42 : decode cX11_exit 42 = .ok (.iconst 3, 1) := by decide +kernel
theorem dX11_exit_43 : decode cX11_exit 43 = .ok (.invokevirtual 128, 3) := by decide +kernel
theorem dX11_exit_46 : decode cX11_exit 46 = .ok (.ireturn, 1) := by decide +kernel
theorem dX11_exit_47 : decode cX11_exit 47 = .ok (.aload_n 0, 1) := by decide +kernel
theorem dX11_exit_48 : decode cX11_exit 48 = .ok (.getfield 30, 3) := by decide +kernel
theorem dX11_exit_51 : decode cX11_exit 51 = .ok (.iload_n 1, 1) := by decide +kernel
theorem dX11_exit_52 : decode cX11_exit 52 = .ok (.bipush 10, 2) := by decide +kernel
theorem dX11_exit_54 : decode cX11_exit 54 = .ok (.imul, 1) := by decide +kernel
theorem dX11_exit_55 : decode cX11_exit 55 = .ok (.iload_n 2, 1) := by decide +kernel
theorem dX11_exit_56 : decode cX11_exit 56 = .ok (.iadd, 1) := by decide +kernel
theorem dX11_exit_57 : decode cX11_exit 57 = .ok (.iload_n 3, 1) := by decide +kernel
theorem dX11_exit_58 : decode cX11_exit 58 = .ok (.invokevirtual 217, 3) := by decide +kernel
theorem dX11_exit_61 : decode cX11_exit 61 = .ok (.ireturn, 1) := by decide +kernel
theorem dX11_flag_0 : decode cX11_flag 0 = .ok (.aload_n 0, 1) := by decide +kernel
theorem dX11_flag_1 : decode cX11_flag 1 = .ok (.getfield 10, 3) := by decide +kernel
theorem dX11_flag_4 : decode cX11_flag 4 = .ok (.iload_n 1, 1) := by decide +kernel
theorem dX11_flag_5 : decode cX11_flag 5 = .ok (.invokevirtual 109, 3) := by decide +kernel
theorem dX11_flag_8 : decode cX11_flag 8 = .ok (.ifCond .eq 12, 3) := by decide +kernel
theorem dX11_flag_11 : decode cX11_flag 11 = .ok (.iload_n 2, 1) := by decide +kernel
theorem dX11_flag_12 : decode cX11_flag 12 = .ok (.bipush 6, 2) := by decide +kernel
theorem dX11_flag_14 : decode cX11_flag 14 = .ok (.invokestatic 91, 3) := by decide +kernel
theorem dX11_flag_17 : decode cX11_flag 17 = .ok (.ifCond .ne 5, 3) := by decide +kernel
theorem dX11_flag_20 : decode cX11_flag 20 = .ok (.iconst (-1), 1) := by decide +kernel
theorem dX11_flag_21 : decode cX11_flag 21 = .ok (.ireturn, 1) := by decide +kernel
theorem dX11_flag_22 : decode cX11_flag 22 = .ok (.aload_n 0, 1) := by decide +kernel
theorem dX11_flag_23 : decode cX11_flag 23 = .ok (.getfield 10, 3) := by decide +kernel
theorem dX11_flag_26 : decode cX11_flag 26 = .ok (.iload_n 1, 1) := by decide +kernel
theorem dX11_flag_27 : decode cX11_flag 27 = .ok (.iload_n 2, 1) := by decide +kernel
theorem dX11_flag_28 : decode cX11_flag 28 = .ok (.invokevirtual 220, 3) := by decide +kernel
theorem dX11_flag_31 : decode cX11_flag 31 = .ok (.ifCond .ne 9, 3) := by decide +kernel
theorem dX11_flag_34 : decode cX11_flag 34 = .ok (.aload_n 0, 1) := by decide +kernel
theorem dX11_flag_35 : decode cX11_flag 35 = .ok (.iconst 3, 1) := by decide +kernel
theorem dX11_flag_36 : decode cX11_flag 36 = .ok (.invokevirtual 128, 3) := by decide +kernel
theorem dX11_flag_39 : decode cX11_flag 39 = .ok (.ireturn, 1) := by decide +kernel
theorem dX11_flag_40 : decode cX11_flag 40 = .ok (.aload_n 0, 1) := by decide +kernel
theorem dX11_flag_41 : decode cX11_flag 41 = .ok (.getfield 21, 3) := by decide +kernel
theorem dX11_flag_44 : decode cX11_flag 44 = .ok (.iload_n 1, 1) := by decide +kernel
theorem dX11_flag_45 : decode cX11_flag 45 = .ok (.iload_n 2, 1) := by decide +kernel
theorem dX11_flag_46 : decode cX11_flag 46 = .ok (.invokevirtual 223, 3) := by decide +kernel
theorem dX11_flag_49 : decode cX11_flag 49 = .ok (.ireturn, 1) := by decide +kernel
theorem dX11_key_0 : decode cX11_key 0 = .ok (.aload_n 0, 1) := by decide +kernel
theorem dX11_key_1 : decode cX11_key 1 = .ok (.getfield 10, 3) := by decide +kernel
theorem dX11_key_4 : decode cX11_key 4 = .ok (.iload_n 1, 1) := by decide +kernel
theorem dX11_key_5 : decode cX11_key 5 = .ok (.invokevirtual 109, 3) := by decide +kernel
theorem dX11_key_8 : decode cX11_key 8 = .ok (.ifCond .ne 5, 3) := by decide +kernel
theorem dX11_key_11 : decode cX11_key 11 = .ok (.iconst (-1), 1) := by decide +kernel
theorem dX11_key_12 : decode cX11_key 12 = .ok (.ireturn, 1) := by decide +kernel
theorem dX11_key_13 : decode cX11_key 13 = .ok (.aload_n 0, 1) := by decide +kernel
theorem dX11_key_14 : decode cX11_key 14 = .ok (.getfield 10, 3) := by decide +kernel
theorem dX11_key_17 : decode cX11_key 17 = .ok (.iload_n 1, 1) := by decide +kernel
theorem dX11_key_18 : decode cX11_key 18 = .ok (.invokevirtual 226, 3) := by decide +kernel
theorem dX11_key_21 : decode cX11_key 21 = .ok (.ifCond .ne 9, 3) := by decide +kernel
theorem dX11_key_24 : decode cX11_key 24 = .ok (.aload_n 0, 1) := by decide +kernel
theorem dX11_key_25 : decode cX11_key 25 = .ok (.iconst 3, 1) := by decide +kernel
theorem dX11_key_26 : decode cX11_key 26 = .ok (.invokevirtual 128, 3) := by decide +kernel
theorem dX11_key_29 : decode cX11_key 29 = .ok (.ireturn, 1) := by decide +kernel
theorem dX11_key_30 : decode cX11_key 30 = .ok (.aload_n 0, 1) := by decide +kernel
theorem dX11_key_31 : decode cX11_key 31 = .ok (.getfield 21, 3) := by decide +kernel
theorem dX11_key_34 : decode cX11_key 34 = .ok (.iload_n 1, 1) := by decide +kernel
theorem dX11_key_35 : decode cX11_key 35 = .ok (.invokevirtual 229, 3) := by decide +kernel
theorem dX11_key_38 : decode cX11_key 38 = .ok (.ireturn, 1) := by decide +kernel
theorem dX11_way_0 : decode cX11_way 0 = .ok (.aload_n 0, 1) := by decide +kernel
theorem dX11_way_1 : decode cX11_way 1 = .ok (.iload_n 1, 1) := by decide +kernel
theorem dX11_way_2 : decode cX11_way 2 = .ok (.iload_n 2, 1) := by decide +kernel
theorem dX11_way_3 : decode cX11_way 3 = .ok (.invokevirtual 232, 3) := by decide +kernel
theorem dX11_way_6 : decode cX11_way 6 = .ok (.istore 4, 2) := by decide +kernel
theorem dX11_way_8 : decode cX11_way 8 = .ok (.iload 4, 2) := by decide +kernel
theorem dX11_way_10 : decode cX11_way 10 = .ok (.ifCond .eq 6, 3) := by decide +kernel
theorem dX11_way_13 : decode cX11_way 13 = .ok (.iload 4, 2) := by decide +kernel
theorem dX11_way_15 : decode cX11_way 15 = .ok (.ireturn, 1) := by decide +kernel
theorem dX11_way_16 : decode cX11_way 16 = .ok (.aload_n 0, 1) := by decide +kernel
theorem dX11_way_17 : decode cX11_way 17 = .ok (.getfield 30, 3) := by decide +kernel
theorem dX11_way_20 : decode cX11_way 20 = .ok (.iload_n 1, 1) := by decide +kernel
theorem dX11_way_21 : decode cX11_way 21 = .ok (.iload_n 3, 1) := by decide +kernel
theorem dX11_way_22 : decode cX11_way 22 = .ok (.invokevirtual 235, 3) := by decide +kernel
theorem dX11_way_25 : decode cX11_way 25 = .ok (.aload_n 0, 1) := by decide +kernel
theorem dX11_way_26 : decode cX11_way 26 = .ok (.getfield 30, 3) := by decide +kernel
theorem dX11_way_29 : decode cX11_way 29 = .ok (.getfield 239, 3) := by decide +kernel
theorem dX11_way_32 : decode cX11_way 32 = .ok (.iload_n 2, 1) := by decide +kernel
theorem dX11_way_33 : decode cX11_way 33 = .ok (.iaload, 1) := by decide +kernel
theorem dX11_way_34 : decode cX11_way 34 = .ok (.ireturn, 1) := by decide +kernel
theorem dX11_toward_0 : decode cX11_toward 0 = .ok (.aload_n 0, 1) := by decide +kernel
theorem dX11_toward_1 : decode cX11_toward 1 = .ok (.iload_n 1, 1) := by decide +kernel
theorem dX11_toward_2 : decode cX11_toward 2 = .ok (.iload_n 2, 1) := by decide +kernel
theorem dX11_toward_3 : decode cX11_toward 3 = .ok (.invokevirtual 232, 3) := by decide +kernel
theorem dX11_toward_6 : decode cX11_toward 6 = .ok (.istore 4, 2) := by decide +kernel
theorem dX11_toward_8 : decode cX11_toward 8 = .ok (.iload 4, 2) := by decide +kernel
theorem dX11_toward_10 : decode cX11_toward 10 = .ok (.ifCond .eq 6, 3) := by decide +kernel
theorem dX11_toward_13 : decode cX11_toward 13 = .ok (.iload 4, 2) := by decide +kernel
theorem dX11_toward_15 : decode cX11_toward 15 = .ok (.ireturn, 1) := by decide +kernel
theorem dX11_toward_16 : decode cX11_toward 16 = .ok (.aload_n 0, 1) := by decide +kernel
theorem dX11_toward_17 : decode cX11_toward 17 = .ok (.getfield 30, 3) := by decide +kernel
theorem dX11_toward_20 : decode cX11_toward 20 = .ok (.iload_n 1, 1) := by decide +kernel
theorem dX11_toward_21 : decode cX11_toward 21 = .ok (.iload_n 3, 1) := by decide +kernel
theorem dX11_toward_22 : decode cX11_toward 22 = .ok (.invokevirtual 235, 3) := by decide +kernel
theorem dX11_toward_25 : decode cX11_toward 25 = .ok (.aload_n 0, 1) := by decide +kernel
theorem dX11_toward_26 : decode cX11_toward 26 = .ok (.getfield 30, 3) := by decide +kernel
theorem dX11_toward_29 : decode cX11_toward 29 = .ok (.getfield 242, 3) := by decide +kernel
theorem dX11_toward_32 : decode cX11_toward 32 = .ok (.iload_n 2, 1) := by decide +kernel
theorem dX11_toward_33 : decode cX11_toward 33 = .ok (.iaload, 1) := by decide +kernel
theorem dX11_toward_34 : decode cX11_toward 34 = .ok (.ireturn, 1) := by decide +kernel
theorem dX11_begin_0 : decode cX11_begin 0 = .ok (.aload_n 0, 1) := by decide +kernel
theorem dX11_begin_1 : decode cX11_begin 1 = .ok (.getfield 10, 3) := by decide +kernel
theorem dX11_begin_4 : decode cX11_begin 4 = .ok (.iload_n 1, 1) := by decide +kernel
theorem dX11_begin_5 : decode cX11_begin 5 = .ok (.invokevirtual 109, 3) := by decide +kernel
theorem dX11_begin_8 : decode cX11_begin 8 = .ok (.ifCond .ne 5, 3) := by decide +kernel
theorem dX11_begin_11 : decode cX11_begin 11 = .ok (.iconst (-1), 1) := by decide +kernel
theorem dX11_begin_12 : decode cX11_begin 12 = .ok (.ireturn, 1) := by decide +kernel
theorem dX11_begin_13 : decode cX11_begin 13 = .ok (.aload_n 0, 1) := by decide +kernel
theorem dX11_begin_14 : decode cX11_begin 14 = .ok (.getfield 10, 3) := by decide +kernel
theorem dX11_begin_17 : decode cX11_begin 17 = .ok (.iload_n 1, 1) := by decide +kernel
theorem dX11_begin_18 : decode cX11_begin 18 = .ok (.invokevirtual 125, 3) := by decide +kernel
theorem dX11_begin_21 : decode cX11_begin 21 = .ok (.iconst 5, 1) := by decide +kernel
theorem dX11_begin_22 : decode cX11_begin 22 = .ok (.if_icmp .eq 9, 3) := by decide +kernel
theorem dX11_begin_25 : decode cX11_begin 25 = .ok (.aload_n 0, 1) := by decide +kernel
theorem dX11_begin_26 : decode cX11_begin 26 = .ok (.iconst 3, 1) := by decide +kernel
theorem dX11_begin_27 : decode cX11_begin 27 = .ok (.invokevirtual 128, 3) := by decide +kernel
theorem dX11_begin_30 : decode cX11_begin 30 = .ok (.ireturn, 1) := by decide +kernel
theorem dX11_begin_31 : decode cX11_begin 31 = .ok (.aload_n 0, 1) := by decide +kernel
theorem dX11_begin_32 : decode cX11_begin 32 = .ok (.getfield 21, 3) := by decide +kernel
theorem dX11_begin_35 : decode cX11_begin 35 = .ok (.getfield 203, 3) := by decide +kernel
theorem dX11_begin_38 : decode cX11_begin 38 = .ok (.iload_n 1, 1) := by decide +kernel
theorem dX11_begin_39 : decode cX11_begin 39 = .ok (.invokevirtual 245, 3) := by decide +kernel
theorem dX11_begin_42 : decode cX11_begin 42 = .ok (.istore_n 2, 1) := by decide +kernel
theorem dX11_begin_43 : decode cX11_begin 43 = .ok (.iload_n 2, 1) := by decide +kernel
theorem dX11_begin_44 : decode cX11_begin 44 = .ok (.bipush (-9), 2) := by decide +kernel
theorem dX11_begin_46 : decode cX11_begin 46 = .ok (.if_icmp .ne 9, 3) := by decide +kernel
theorem dX11_begin_49 : decode cX11_begin 49 = .ok (.aload_n 0, 1) := by decide +kernel
theorem dX11_begin_50 : decode cX11_begin 50 = .ok (.iconst 1, 1) := by decide +kernel
theorem dX11_begin_51 : decode cX11_begin 51 = .ok (.invokevirtual 128, 3) := by decide +kernel
theorem dX11_begin_54 : decode cX11_begin 54 = .ok (.ireturn, 1) := by decide +kernel
theorem dX11_begin_55 : decode cX11_begin 55 = .ok (.aload_n 0, 1) := by decide +kernel
theorem dX11_begin_56 : decode cX11_begin 56 = .ok (.getfield 46, 3) := by decide +kernel
theorem dX11_begin_59 : decode cX11_begin 59 = .ok (.iload_n 1, 1) := by decide +kernel
theorem dX11_begin_60 : decode cX11_begin 60 = .ok (.invokevirtual 248, 3) := by decide +kernel
theorem dX11_begin_63 : decode cX11_begin 63 = .ok (.iload_n 2, 1) := by decide +kernel
theorem dX11_begin_64 : decode cX11_begin 64 = .ok (.ireturn, 1) := by decide +kernel
theorem dX11_act_0 : decode cX11_act 0 = .ok (.aload_n 0, 1) := by decide +kernel
theorem dX11_act_1 : decode cX11_act 1 = .ok (.getfield 46, 3) := by decide +kernel
theorem dX11_act_4 : decode cX11_act 4 = .ok (.iload_n 1, 1) := by decide +kernel
theorem dX11_act_5 : decode cX11_act 5 = .ok (.iload_n 2, 1) := by decide +kernel
theorem dX11_act_6 : decode cX11_act 6 = .ok (.iload_n 3, 1) := by decide +kernel
theorem dX11_act_7 : decode cX11_act 7 = .ok (.invokevirtual 251, 3) := by decide +kernel
theorem dX11_act_10 : decode cX11_act 10 = .ok (.ifCond .ne 5, 3) := by decide +kernel
theorem dX11_act_13 : decode cX11_act 13 = .ok (.iconst (-1), 1) := by decide +kernel
theorem dX11_act_14 : decode cX11_act 14 = .ok (.ireturn, 1) := by decide +kernel
theorem dX11_act_15 : decode cX11_act 15 = .ok (.aload_n 0, 1) := by decide +kernel
theorem dX11_act_16 : decode cX11_act 16 = .ok (.getfield 46, 3) := by decide +kernel
theorem dX11_act_19 : decode cX11_act 19 = .ok (.getfield 254, 3) := by decide +kernel
theorem dX11_act_22 : decode cX11_act 22 = .ok (.bipush 100, 2) := by decide +kernel
theorem dX11_act_24 : decode cX11_act 24 = .ok (.if_icmp .lt 6, 3) := by decide +kernel
theorem dX11_act_27 : decode cX11_act 27 = .ok (.bipush (-2), 2) := by decide +kernel
theorem dX11_act_29 : decode cX11_act 29 = .ok (.ireturn, 1) := by decide +kernel
theorem dX11_act_30 : decode cX11_act 30 = .ok (.aload_n 0, 1) := by decide +kernel
theorem dX11_act_31 : decode cX11_act 31 = .ok (.getfield 46, 3) := by decide +kernel
theorem dX11_act_34 : decode cX11_act 34 = .ok (.getfield 257, 3) := by decide +kernel
theorem dX11_act_37 : decode cX11_act 37 = .ok (.ifCond .ne 6, 3) := by decide +kernel
theorem dX11_act_40 : decode cX11_act 40 = .ok (.bipush (-5), 2) := by decide +kernel
theorem dX11_act_42 : decode cX11_act 42 = .ok (.ireturn, 1) := by decide +kernel
theorem dX11_act_43 : decode cX11_act 43 = .ok (.aload_n 0, 1) := by decide +kernel
theorem dX11_act_44 : decode cX11_act 44 = .ok (.getfield 46, 3) := by decide +kernel
theorem dX11_act_47 : decode cX11_act 47 = .ok (.iload_n 1, 1) := by decide +kernel
theorem dX11_act_48 : decode cX11_act 48 = .ok (.iload_n 2, 1) := by decide +kernel
theorem dX11_act_49 : decode cX11_act 49 = .ok (.iload_n 3, 1) := by decide +kernel
theorem dX11_act_50 : decode cX11_act 50 = .ok (.invokevirtual 261, 3) := by decide +kernel
theorem dX11_act_53 : decode cX11_act 53 = .ok (.ireturn, 1) := by decide +kernel
theorem dX11_back_0 : decode cX11_back 0 = .ok (.aload_n 0, 1) := by decide +kernel
theorem dX11_back_1 : decode cX11_back 1 = .ok (.getfield 46, 3) := by decide +kernel
theorem dX11_back_4 : decode cX11_back 4 = .ok (.getfield 257, 3) := by decide +kernel
theorem dX11_back_7 : decode cX11_back 7 = .ok (.ifCond .eq 13, 3) := by decide +kernel
theorem dX11_back_10 : decode cX11_back 10 = .ok (.aload_n 0, 1) := by decide +kernel
theorem dX11_back_11 : decode cX11_back 11 = .ok (.getfield 46, 3) := by decide +kernel
theorem dX11_back_14 : decode cX11_back 14 = .ok (.getfield 254, 3) := by decide +kernel
theorem dX11_back_17 : decode cX11_back 17 = .ok (.ifCond .ne 6, 3) := by decide +kernel
theorem dX11_back_20 : decode cX11_back 20 = .ok (.bipush (-5), 2) := by decide +kernel
theorem dX11_back_22 : decode cX11_back 22 = .ok (.ireturn, 1) := by decide +kernel
theorem dX11_back_23 : decode cX11_back 23 = .ok (.aload_n 0, 1) := by decide +kernel
theorem dX11_back_24 : decode cX11_back 24 = .ok (.getfield 46, 3) := by decide +kernel
theorem dX11_back_27 : decode cX11_back 27 = .ok (.invokevirtual 264, 3) := by decide +kernel
theorem dX11_back_30 : decode cX11_back 30 = .ok (.aload_n 0, 1) := by decide +kernel
theorem dX11_back_31 : decode cX11_back 31 = .ok (.getfield 46, 3) := by decide +kernel
theorem dX11_back_34 : decode cX11_back 34 = .ok (.getfield 254, 3) := by decide +kernel
theorem dX11_back_37 : decode cX11_back 37 = .ok (.ireturn, 1) := by decide +kernel
theorem dX11_now_0 : decode cX11_now 0 = .ok (.aload_n 0, 1) := by decide +kernel
theorem dX11_now_1 : decode cX11_now 1 = .ok (.getfield 10, 3) := by decide +kernel
theorem dX11_now_4 : decode cX11_now 4 = .ok (.iload_n 1, 1) := by decide +kernel
theorem dX11_now_5 : decode cX11_now 5 = .ok (.invokevirtual 109, 3) := by decide +kernel
theorem dX11_now_8 : decode cX11_now 8 = .ok (.ifCond .eq 12, 3) := by decide +kernel
theorem dX11_now_11 : decode cX11_now 11 = .ok (.iload_n 2, 1) := by decide +kernel
theorem dX11_now_12 : decode cX11_now 12 = .ok (.bipush 7, 2) := by decide +kernel
theorem dX11_now_14 : decode cX11_now 14 = .ok (.invokestatic 91, 3) := by decide +kernel
theorem dX11_now_17 : decode cX11_now 17 = .ok (.ifCond .ne 5, 3) := by decide +kernel
theorem dX11_now_20 : decode cX11_now 20 = .ok (.iconst (-1), 1) := by decide +kernel
theorem dX11_now_21 : decode cX11_now 21 = .ok (.ireturn, 1) := by decide +kernel
theorem dX11_now_22 : decode cX11_now 22 = .ok (.aload_n 0, 1) := by decide +kernel
theorem dX11_now_23 : decode cX11_now 23 = .ok (.getfield 46, 3) := by decide +kernel
theorem dX11_now_26 : decode cX11_now 26 = .ok (.getfield 257, 3) := by decide +kernel
theorem dX11_now_29 : decode cX11_now 29 = .ok (.ifCond .ne 6, 3) := by decide +kernel
theorem dX11_now_32 : decode cX11_now 32 = .ok (.bipush (-5), 2) := by decide +kernel
theorem dX11_now_34 : decode cX11_now 34 = .ok (.ireturn, 1) := by decide +kernel
theorem dX11_now_35 : decode cX11_now 35 = .ok (.aload_n 0, 1) := by decide +kernel
theorem dX11_now_36 : decode cX11_now 36 = .ok (.getfield 46, 3) := by decide +kernel
theorem dX11_now_39 : decode cX11_now 39 = .ok (.iload_n 1, 1) := by decide +kernel
theorem dX11_now_40 : decode cX11_now 40 = .ok (.iload_n 2, 1) := by decide +kernel
theorem dX11_now_41 : decode cX11_now 41 = .ok (.invokevirtual 267, 3) := by decide +kernel
theorem dX11_now_44 : decode cX11_now 44 = .ok (.ireturn, 1) := by decide +kernel
theorem dX11_turn_0 : decode cX11_turn 0 = .ok (.iload_n 2, 1) := by decide +kernel
theorem dX11_turn_1 : decode cX11_turn 1 = .ok (.iconst 3, 1) := by decide +kernel
theorem dX11_turn_2 : decode cX11_turn 2 = .ok (.invokestatic 91, 3) := by decide +kernel
theorem dX11_turn_5 : decode cX11_turn 5 = .ok (.ifCond .eq 7, 3) := by decide +kernel
theorem dX11_turn_8 : decode cX11_turn 8 = .ok (.iload_n 1, 1) := by decide +kernel
theorem dX11_turn_9 : decode cX11_turn 9 = .ok (.ifCond .ge 5, 3) := by decide +kernel
theorem dX11_turn_12 : decode cX11_turn 12 = .ok (.iconst (-1), 1) := by decide +kernel
theorem dX11_turn_13 : decode cX11_turn 13 = .ok (.ireturn, 1) := by decide +kernel
theorem dX11_turn_14 : decode cX11_turn 14 = .ok (.aload_n 0, 1) := by decide +kernel
theorem dX11_turn_15 : decode cX11_turn 15 = .ok (.getfield 46, 3) := by decide +kernel
theorem dX11_turn_18 : decode cX11_turn 18 = .ok (.getfield 257, 3) := by decide +kernel
theorem dX11_turn_21 : decode cX11_turn 21 = .ok (.ifCond .ne 6, 3) := by decide +kernel
theorem dX11_turn_24 : decode cX11_turn 24 = .ok (.bipush (-5), 2) := by decide +kernel
theorem dX11_turn_26 : decode cX11_turn 26 = .ok (.ireturn, 1) := by decide +kernel
theorem dX11_turn_27 : decode cX11_turn 27 = .ok (.iload_n 1, 1) := by decide +kernel
theorem dX11_turn_28 : decode cX11_turn 28 = .ok (.aload_n 0, 1) := by decide +kernel
theorem dX11_turn_29 : decode cX11_turn 29 = .ok (.getfield 46, 3) := by decide +kernel
theorem dX11_turn_32 : decode cX11_turn 32 = .ok (.getfield 254, 3) := by decide +kernel
theorem dX11_turn_35 : decode cX11_turn 35 = .ok (.if_icmp .lt 5, 3) := by decide +kernel
theorem dX11_turn_38 : decode cX11_turn 38 = .ok (.iconst (-1), 1) := by decide +kernel
theorem dX11_turn_39 : decode cX11_turn 39 = .ok (.ireturn, 1) := by decide +kernel
theorem dX11_turn_40 : decode cX11_turn 40 = .ok (.aload_n 0, 1) := by decide +kernel
theorem dX11_turn_41 : decode cX11_turn 41 = .ok (.getfield 46, 3) := by decide +kernel
theorem dX11_turn_44 : decode cX11_turn 44 = .ok (.getfield 268, 3) := by decide +kernel
theorem dX11_turn_47 : decode cX11_turn 47 = .ok (.iload_n 1, 1) := by decide +kernel
theorem dX11_turn_48 : decode cX11_turn 48 = .ok (.iaload, 1) := by decide +kernel
theorem dX11_turn_49 : decode cX11_turn 49 = .ok (.iload_n 2, 1) := by decide +kernel
theorem dX11_turn_50 : decode cX11_turn 50 = .ok (.invokestatic 271, 3) := by decide +kernel
theorem dX11_turn_53 : decode cX11_turn 53 = .ok (.ireturn, 1) := by decide +kernel
theorem dX11_light_0 : decode cX11_light 0 = .ok (.aload_n 0, 1) := by decide +kernel
theorem dX11_light_1 : decode cX11_light 1 = .ok (.getfield 46, 3) := by decide +kernel
theorem dX11_light_4 : decode cX11_light 4 = .ok (.getfield 257, 3) := by decide +kernel
theorem dX11_light_7 : decode cX11_light 7 = .ok (.ifCond .ne 6, 3) := by decide +kernel
theorem dX11_light_10 : decode cX11_light 10 = .ok (.bipush (-5), 2) := by decide +kernel
theorem dX11_light_12 : decode cX11_light 12 = .ok (.ireturn, 1) := by decide +kernel
theorem dX11_light_13 : decode cX11_light 13 = .ok (.aload_n 0, 1) := by decide +kernel
theorem dX11_light_14 : decode cX11_light 14 = .ok (.getfield 46, 3) := by decide +kernel
theorem dX11_light_17 : decode cX11_light 17 = .ok (.getfield 274, 3) := by decide +kernel
theorem dX11_light_20 : decode cX11_light 20 = .ok (.getfield 278, 3) := by decide +kernel
theorem dX11_light_23 : decode cX11_light 23 = .ok (.invokestatic 118, 3) := by decide +kernel
theorem dX11_light_26 : decode cX11_light 26 = .ok (.ireturn, 1) := by decide +kernel
theorem dX11_seek_0 : decode cX11_seek 0 = .ok (.aload_n 0, 1) := by decide +kernel
theorem dX11_seek_1 : decode cX11_seek 1 = .ok (.getfield 10, 3) := by decide +kernel
theorem dX11_seek_4 : decode cX11_seek 4 = .ok (.iload_n 1, 1) := by decide +kernel
theorem dX11_seek_5 : decode cX11_seek 5 = .ok (.invokevirtual 109, 3) := by decide +kernel
theorem dX11_seek_8 : decode cX11_seek 8 = .ok (.ifCond .eq 25, 3) := by decide +kernel
theorem dX11_seek_11 : decode cX11_seek 11 = .ok (.aload_n 0, 1) := by decide +kernel
theorem dX11_seek_12 : decode cX11_seek 12 = .ok (.getfield 10, 3) := by decide +kernel
theorem dX11_seek_15 : decode cX11_seek 15 = .ok (.iload_n 2, 1) := by decide +kernel
theorem dX11_seek_16 : decode cX11_seek 16 = .ok (.invokevirtual 109, 3) := by decide +kernel
theorem dX11_seek_19 : decode cX11_seek 19 = .ok (.ifCond .eq 14, 3) := by decide +kernel
theorem dX11_seek_22 : decode cX11_seek 22 = .ok (.iload_n 3, 1) := by decide +kernel
theorem dX11_seek_23 : decode cX11_seek 23 = .ok (.ifCond .lt 10, 3) := by decide +kernel
theorem dX11_seek_26 : decode cX11_seek 26 = .ok (.iload_n 3, 1) := by decide +kernel
theorem dX11_seek_27 : decode cX11_seek 27 = .ok (.sipush 300, 3) := by decide +kernel
theorem dX11_seek_30 : decode cX11_seek 30 = .ok (.if_icmp .le 5, 3) := by decide +kernel
theorem dX11_seek_33 : decode cX11_seek 33 = .ok (.iconst (-1), 1) := by decide +kernel
theorem dX11_seek_34 : decode cX11_seek 34 = .ok (.ireturn, 1) := by decide +kernel
theorem dX11_seek_35 : decode cX11_seek 35 = .ok (.aload_n 0, 1) := by decide +kernel
theorem dX11_seek_36 : decode cX11_seek 36 = .ok (.getfield 46, 3) := by decide +kernel
theorem dX11_seek_39 : decode cX11_seek 39 = .ok (.getfield 257, 3) := by decide +kernel
theorem dX11_seek_42 : decode cX11_seek 42 = .ok (.ifCond .ne 6, 3) := by decide +kernel
theorem dX11_seek_45 : decode cX11_seek 45 = .ok (.bipush (-5), 2) := by decide +kernel
theorem dX11_seek_47 : decode cX11_seek 47 = .ok (.ireturn, 1) := by decide +kernel
theorem dX11_seek_48 : decode cX11_seek 48 = .ok (.aload_n 0, 1) := by decide +kernel
theorem dX11_seek_49 : decode cX11_seek 49 = .ok (.getfield 64, 3) := by decide +kernel
theorem dX11_seek_52 : decode cX11_seek 52 = .ok (.ifnonnull 30, 3) := by decide +kernel
theorem dX11_seek_55 : decode cX11_seek 55 = .ok (.aload_n 0, 1) := by decide +kernel
theorem dX11_seek_56 : decode cX11_seek 56 = .ok (.new 283, 3) := by decide +kernel
theorem dX11_seek_59 : decode cX11_seek 59 = .ok (.dup, 1) := by decide +kernel
theorem dX11_seek_60 : decode cX11_seek 60 = .ok (.aload_n 0, 1) := by decide +kernel
theorem dX11_seek_61 : decode cX11_seek 61 = .ok (.getfield 10, 3) := by decide +kernel
theorem dX11_seek_64 : decode cX11_seek 64 = .ok (.aload_n 0, 1) := by decide +kernel
theorem dX11_seek_65 : decode cX11_seek 65 = .ok (.getfield 21, 3) := by decide +kernel
theorem dX11_seek_68 : decode cX11_seek 68 = .ok (.aload_n 0, 1) := by decide +kernel
theorem dX11_seek_69 : decode cX11_seek 69 = .ok (.getfield 30, 3) := by decide +kernel
theorem dX11_seek_72 : decode cX11_seek 72 = .ok (.aload_n 0, 1) := by decide +kernel
theorem dX11_seek_73 : decode cX11_seek 73 = .ok (.getfield 37, 3) := by decide +kernel
theorem dX11_seek_76 : decode cX11_seek 76 = .ok (.invokespecial 285, 3) := by decide +kernel
theorem dX11_seek_79 : decode cX11_seek 79 = .ok (.putfield 64, 3) := by decide +kernel
theorem dX11_seek_82 : decode cX11_seek 82 = .ok (.aload_n 0, 1) := by decide +kernel
theorem dX11_seek_83 : decode cX11_seek 83 = .ok (.getfield 64, 3) := by decide +kernel
theorem dX11_seek_86 : decode cX11_seek 86 = .ok (.aload_n 0, 1) := by decide +kernel
theorem dX11_seek_87 : decode cX11_seek 87 = .ok (.getfield 46, 3) := by decide +kernel
theorem dX11_seek_90 : decode cX11_seek 90 = .ok (.getfield 286, 3) := by decide +kernel
theorem dX11_seek_93 : decode cX11_seek 93 = .ok (.aload_n 0, 1) := by decide +kernel
theorem dX11_seek_94 : decode cX11_seek 94 = .ok (.getfield 46, 3) := by decide +kernel
theorem dX11_seek_97 : decode cX11_seek 97 = .ok (.getfield 289, 3) := by decide +kernel
theorem dX11_seek_100 : decode cX11_seek 100 = .ok (.invokevirtual 292, 3) := by decide +kernel
theorem dX11_seek_103 : decode cX11_seek 103 = .ok (.aload_n 0, 1) := by decide +kernel
theorem dX11_seek_104 : decode cX11_seek 104 = .ok (.getfield 64, 3) := by decide +kernel
theorem dX11_seek_107 : decode cX11_seek 107 = .ok (.iload_n 1, 1) := by decide +kernel
theorem dX11_seek_108 : decode cX11_seek 108 = .ok (.iload_n 2, 1) := by decide +kernel
theorem dX11_seek_109 : decode cX11_seek 109 = .ok (.iload_n 3, 1) := by decide +kernel
theorem dX11_seek_110 : decode cX11_seek 110 = .ok (.invokevirtual 296, 3) := by decide +kernel
theorem dX11_seek_113 : decode cX11_seek 113 = .ok (.ireturn, 1) := by decide +kernel
theorem dX11_sought_0 : decode cX11_sought 0 = .ok (.iload_n 2, 1) := by decide +kernel
theorem dX11_sought_1 : decode cX11_sought 1 = .ok (.iconst 3, 1) := by decide +kernel
theorem dX11_sought_2 : decode cX11_sought 2 = .ok (.invokestatic 91, 3) := by decide +kernel
theorem dX11_sought_5 : decode cX11_sought 5 = .ok (.ifCond .ne 5, 3) := by decide +kernel
theorem dX11_sought_8 : decode cX11_sought 8 = .ok (.iconst (-1), 1) := by decide +kernel
theorem dX11_sought_9 : decode cX11_sought 9 = .ok (.ireturn, 1) := by decide +kernel
theorem dX11_sought_10 : decode cX11_sought 10 = .ok (.aload_n 0, 1) := by decide +kernel
theorem dX11_sought_11 : decode cX11_sought 11 = .ok (.getfield 64, 3) := by decide +kernel
theorem dX11_sought_14 : decode cX11_sought 14 = .ok (.ifnull 17, 3) := by decide +kernel
theorem dX11_sought_17 : decode cX11_sought 17 = .ok (.iload_n 1, 1) := by decide +kernel
theorem dX11_sought_18 : decode cX11_sought 18 = .ok (.aload_n 0, 1) := by decide +kernel
theorem dX11_sought_19 : decode cX11_sought 19 = .ok (.getfield 64, 3) := by decide +kernel
theorem dX11_sought_22 : decode cX11_sought 22 = .ok (.getfield 299, 3) := by decide +kernel
theorem dX11_sought_25 : decode cX11_sought 25 = .ok (.invokestatic 91, 3) := by decide +kernel
theorem dX11_sought_28 : decode cX11_sought 28 = .ok (.ifCond .ne 6, 3) := by decide +kernel
theorem dX11_sought_31 : decode cX11_sought 31 = .ok (.bipush (-9), 2) := by decide +kernel
theorem dX11_sought_33 : decode cX11_sought 33 = .ok (.ireturn, 1) := by decide +kernel
theorem dX11_sought_34 : decode cX11_sought 34 = .ok (.aload_n 0, 1) := by decide +kernel
theorem dX11_sought_35 : decode cX11_sought 35 = .ok (.getfield 64, 3) := by decide +kernel
theorem dX11_sought_38 : decode cX11_sought 38 = .ok (.getfield 302, 3) := by decide +kernel
theorem dX11_sought_41 : decode cX11_sought 41 = .ok (.iload_n 1, 1) := by decide +kernel
theorem dX11_sought_42 : decode cX11_sought 42 = .ok (.iaload, 1) := by decide +kernel
theorem dX11_sought_43 : decode cX11_sought 43 = .ok (.iload_n 2, 1) := by decide +kernel
theorem dX11_sought_44 : decode cX11_sought 44 = .ok (.invokestatic 271, 3) := by decide +kernel
theorem dX11_sought_47 : decode cX11_sought 47 = .ok (.ireturn, 1) := by decide +kernel
theorem dX11_line_0 : decode cX11_line 0 = .ok (.aload_n 0, 1) := by decide +kernel
theorem dX11_line_1 : decode cX11_line 1 = .ok (.getfield 10, 3) := by decide +kernel
theorem dX11_line_4 : decode cX11_line 4 = .ok (.iload_n 1, 1) := by decide +kernel
theorem dX11_line_5 : decode cX11_line 5 = .ok (.invokevirtual 109, 3) := by decide +kernel
theorem dX11_line_8 : decode cX11_line 8 = .ok (.ifCond .eq 17, 3) := by decide +kernel
theorem dX11_line_11 : decode cX11_line 11 = .ok (.iload_n 2, 1) := by decide +kernel
theorem dX11_line_12 : decode cX11_line 12 = .ok (.iconst 4, 1) := by decide +kernel
theorem dX11_line_13 : decode cX11_line 13 = .ok (.invokestatic 91, 3) := by decide +kernel
theorem dX11_line_16 : decode cX11_line 16 = .ok (.ifCond .eq 9, 3) := by decide +kernel
theorem dX11_line_19 : decode cX11_line 19 = .ok (.iload_n 3, 1) := by decide +kernel
theorem dX11_line_20 : decode cX11_line 20 = .ok (.bipush 12, 2) := by decide +kernel
theorem dX11_line_22 : decode cX11_line 22 = .ok (.if_icmp .le 5, 3) := by decide +kernel
theorem dX11_line_25 : decode cX11_line 25 = .ok (.iconst (-1), 1) := by decide +kernel
theorem dX11_line_26 : decode cX11_line 26 = .ok (.ireturn, 1) := by decide +kernel
theorem dX11_line_27 : decode cX11_line 27 = .ok (.iload_n 3, 1) := by decide +kernel
theorem dX11_line_28 : decode cX11_line 28 = .ok (.ifCond .ge 9, 3) := by decide +kernel
theorem dX11_line_31 : decode cX11_line 31 = .ok (.aload_n 0, 1) := by decide +kernel
theorem dX11_line_32 : decode cX11_line 32 = .ok (.iconst 5, 1) := by decide +kernel
theorem dX11_line_33 : decode cX11_line 33 = .ok (.invokevirtual 128, 3) := by decide +kernel
theorem dX11_line_36 : decode cX11_line 36 = .ok (.ireturn, 1) := by decide +kernel
theorem dX11_line_37 : decode cX11_line 37 = .ok (.aload_n 0, 1) := by decide +kernel
theorem dX11_line_38 : decode cX11_line 38 = .ok (.getfield 53, 3) := by decide +kernel
theorem dX11_line_41 : decode cX11_line 41 = .ok (.iload_n 1, 1) := by decide +kernel
theorem dX11_line_42 : decode cX11_line 42 = .ok (.iload_n 2, 1) := by decide +kernel
theorem dX11_line_43 : decode cX11_line 43 = .ok (.iload_n 3, 1) := by decide +kernel
theorem dX11_line_44 : decode cX11_line 44 = .ok (.invokevirtual 304, 3) := by decide +kernel
theorem dX11_line_47 : decode cX11_line 47 = .ok (.iload_n 3, 1) := by decide +kernel
theorem dX11_line_48 : decode cX11_line 48 = .ok (.ireturn, 1) := by decide +kernel
theorem dX11_put_0 : decode cX11_put 0 = .ok (.aload_n 0, 1) := by decide +kernel
theorem dX11_put_1 : decode cX11_put 1 = .ok (.iload_n 1, 1) := by decide +kernel
theorem dX11_put_2 : decode cX11_put 2 = .ok (.iload_n 2, 1) := by decide +kernel
theorem dX11_put_3 : decode cX11_put 3 = .ok (.iload_n 3, 1) := by decide +kernel
theorem dX11_put_4 : decode cX11_put 4 = .ok (.invokevirtual 308, 3) := by decide +kernel
theorem dX11_put_7 : decode cX11_put 7 = .ok (.istore 6, 2) := by decide +kernel
theorem dX11_put_9 : decode cX11_put 9 = .ok (.iload 6, 2) := by decide +kernel
theorem dX11_put_11 : decode cX11_put 11 = .ok (.ifCond .eq 6, 3) := by decide +kernel
theorem dX11_put_14 : decode cX11_put 14 = .ok (.iload 6, 2) := by decide +kernel
theorem dX11_put_16 : decode cX11_put 16 = .ok (.ireturn, 1) := by decide +kernel
theorem dX11_put_17 : decode cX11_put 17 = .ok (.aload_n 0, 1) := by decide +kernel
theorem dX11_put_18 : decode cX11_put 18 = .ok (.getfield 53, 3) := by decide +kernel
theorem dX11_put_21 : decode cX11_put 21 = .ok (.getfield 311, 3) := by decide +kernel
theorem dX11_put_24 : decode cX11_put 24 = .ok (.iload_n 1, 1) := by decide +kernel
theorem dX11_put_25 : decode cX11_put 25 = .ok (.bipush 12, 2) := by decide +kernel
theorem dX11_put_27 : decode cX11_put 27 = .ok (.imul, 1) := by decide +kernel
theorem dX11_put_28 : decode cX11_put 28 = .ok (.iload_n 3, 1) := by decide +kernel
theorem dX11_put_29 : decode cX11_put 29 = .ok (.iadd, 1) := by decide +kernel
theorem dX11_put_30 : decode cX11_put 30 = .ok (.aload_n 0, 1) := by decide +kernel
theorem dX11_put_31 : decode cX11_put 31 = .ok (.getfield 53, 3) := by decide +kernel
theorem dX11_put_34 : decode cX11_put 34 = .ok (.iload_n 2, 1) := by decide +kernel
theorem dX11_put_35 : decode cX11_put 35 = .ok (.lload 4, 2) := by decide +kernel
theorem dX11_put_37 : decode cX11_put 37 = .ok (.invokevirtual 315, 3) := by decide +kernel
theorem dX11_put_40 : decode cX11_put 40 = .ok (.lastore, 1) := by decide +kernel
theorem dX11_put_41 : decode cX11_put 41 = .ok (.iconst 1, 1) := by decide +kernel
theorem dX11_put_42 : decode cX11_put 42 = .ok (.ireturn, 1) := by decide +kernel
theorem dX11_item_0 : decode cX11_item 0 = .ok (.aload_n 0, 1) := by decide +kernel
theorem dX11_item_1 : decode cX11_item 1 = .ok (.iload_n 1, 1) := by decide +kernel
theorem dX11_item_2 : decode cX11_item 2 = .ok (.iload_n 2, 1) := by decide +kernel
theorem dX11_item_3 : decode cX11_item 3 = .ok (.iload_n 3, 1) := by decide +kernel
theorem dX11_item_4 : decode cX11_item 4 = .ok (.invokevirtual 308, 3) := by decide +kernel
theorem dX11_item_7 : decode cX11_item 7 = .ok (.istore 4, 2) := by decide +kernel
theorem dX11_item_9 : decode cX11_item 9 = .ok (.iload 4, 2) := by decide +kernel
theorem dX11_item_11 : decode cX11_item 11 = .ok (.ifCond .eq 6, 3) := by decide +kernel
theorem dX11_item_14 : decode cX11_item 14 = .ok (.iload 4, 2) := by decide +kernel
theorem dX11_item_16 : decode cX11_item 16 = .ok (.ireturn, 1) := by decide +kernel
theorem dX11_item_17 : decode cX11_item 17 = .ok (.aload_n 0, 1) := by decide +kernel
theorem dX11_item_18 : decode cX11_item 18 = .ok (.aload_n 0, 1) := by decide +kernel
theorem dX11_item_19 : decode cX11_item 19 = .ok (.getfield 53, 3) := by decide +kernel
theorem dX11_item_22 : decode cX11_item 22 = .ok (.getfield 311, 3) := by decide +kernel
theorem dX11_item_25 : decode cX11_item 25 = .ok (.iload_n 1, 1) := by decide +kernel
theorem dX11_item_26 : decode cX11_item 26 = .ok (.bipush 12, 2) := by decide +kernel
theorem dX11_item_28 : decode cX11_item 28 = .ok (.imul, 1) := by decide +kernel
theorem dX11_item_29 : decode cX11_item 29 = .ok (.iload_n 3, 1) := by decide +kernel
theorem dX11_item_30 : decode cX11_item 30 = .ok (.iadd, 1) := by decide +kernel
theorem dX11_item_31 : decode cX11_item 31 = .ok (.laload, 1) := by decide +kernel
theorem dX11_item_32 : decode cX11_item 32 = .ok (.putfield 76, 3) := by decide +kernel
theorem dX11_item_35 : decode cX11_item 35 = .ok (.iconst 1, 1) := by decide +kernel
theorem dX11_item_36 : decode cX11_item 36 = .ok (.ireturn, 1) := by decide +kernel
theorem dX11_copy_0 : decode cX11_copy 0 = .ok (.aload_n 0, 1) := by decide +kernel
theorem dX11_copy_1 : decode cX11_copy 1 = .ok (.getfield 10, 3) := by decide +kernel
theorem dX11_copy_4 : decode cX11_copy 4 = .ok (.iload_n 1, 1) := by decide +kernel
theorem dX11_copy_5 : decode cX11_copy 5 = .ok (.invokevirtual 109, 3) := by decide +kernel
theorem dX11_copy_8 : decode cX11_copy 8 = .ok (.ifCond .eq 23, 3) := by decide +kernel
theorem dX11_copy_11 : decode cX11_copy 11 = .ok (.aload_n 0, 1) := by decide +kernel
theorem dX11_copy_12 : decode cX11_copy 12 = .ok (.getfield 10, 3) := by decide +kernel
theorem dX11_copy_15 : decode cX11_copy 15 = .ok (.iload 4, 2) := by decide +kernel
theorem dX11_copy_17 : decode cX11_copy 17 = .ok (.invokevirtual 109, 3) := by decide +kernel
theorem dX11_copy_20 : decode cX11_copy 20 = .ok (.ifCond .eq 11, 3) := by decide +kernel
theorem dX11_copy_23 : decode cX11_copy 23 = .ok (.iload_n 2, 1) := by decide +kernel
theorem dX11_copy_24 : decode cX11_copy 24 = .ok (.iconst 4, 1) := by decide +kernel
theorem dX11_copy_25 : decode cX11_copy 25 = .ok (.invokestatic 91, 3) := by decide +kernel
theorem dX11_copy_28 : decode cX11_copy 28 = .ok (.ifCond .ne 5, 3) := by decide +kernel
theorem dX11_copy_31 : decode cX11_copy 31 = .ok (.iconst (-1), 1) := by decide +kernel
theorem dX11_copy_32 : decode cX11_copy 32 = .ok (.ireturn, 1) := by decide +kernel
theorem dX11_copy_33 : decode cX11_copy 33 = .ok (.aload_n 0, 1) := by decide +kernel
theorem dX11_copy_34 : decode cX11_copy 34 = .ok (.getfield 53, 3) := by decide +kernel
theorem dX11_copy_37 : decode cX11_copy 37 = .ok (.iload_n 1, 1) := by decide +kernel
theorem dX11_copy_38 : decode cX11_copy 38 = .ok (.iload_n 2, 1) := by decide +kernel
theorem dX11_copy_39 : decode cX11_copy 39 = .ok (.invokevirtual 319, 3) := by decide +kernel
theorem dX11_copy_42 : decode cX11_copy 42 = .ok (.ifCond .ne 16, 3) := by decide +kernel
theorem dX11_copy_45 : decode cX11_copy 45 = .ok (.aload_n 0, 1) := by decide +kernel
theorem dX11_copy_46 : decode cX11_copy 46 = .ok (.getfield 53, 3) := by decide +kernel
theorem dX11_copy_49 : decode cX11_copy 49 = .ok (.iload 4, 2) := by decide +kernel
theorem dX11_copy_51 : decode cX11_copy 51 = .ok (.iload_n 2, 1) := by decide +kernel
theorem dX11_copy_52 : decode cX11_copy 52 = .ok (.invokevirtual 319, 3) := by decide +kernel
theorem dX11_copy_55 : decode cX11_copy 55 = .ok (.ifCond .eq 9, 3) := by decide +kernel
theorem dX11_copy_58 : decode cX11_copy 58 = .ok (.aload_n 0, 1) := by decide +kernel
theorem dX11_copy_59 : decode cX11_copy 59 = .ok (.iconst 3, 1) := by decide +kernel
theorem dX11_copy_60 : decode cX11_copy 60 = .ok (.invokevirtual 128, 3) := by decide +kernel
theorem dX11_copy_63 : decode cX11_copy 63 = .ok (.ireturn, 1) := by decide +kernel
theorem dX11_copy_64 : decode cX11_copy 64 = .ok (.aload_n 0, 1) := by decide +kernel
theorem dX11_copy_65 : decode cX11_copy 65 = .ok (.getfield 53, 3) := by decide +kernel
theorem dX11_copy_68 : decode cX11_copy 68 = .ok (.getfield 322, 3) := by decide +kernel
theorem dX11_copy_71 : decode cX11_copy 71 = .ok (.iload_n 1, 1) := by decide +kernel
theorem dX11_copy_72 : decode cX11_copy 72 = .ok (.iaload, 1) := by decide +kernel
theorem dX11_copy_73 : decode cX11_copy 73 = .ok (.bipush (-9), 2) := by decide +kernel
theorem dX11_copy_75 : decode cX11_copy 75 = .ok (.if_icmp .eq 18, 3) := by decide +kernel
theorem dX11_copy_78 : decode cX11_copy 78 = .ok (.aload_n 0, 1) := by decide +kernel
theorem dX11_copy_79 : decode cX11_copy 79 = .ok (.getfield 53, 3) := by decide +kernel
theorem dX11_copy_82 : decode cX11_copy 82 = .ok (.getfield 322, 3) := by decide +kernel
theorem dX11_copy_85 : decode cX11_copy 85 = .ok (.iload 4, 2) := by decide +kernel
theorem dX11_copy_87 : decode cX11_copy 87 = .ok (.iaload, 1) := by decide +kernel
theorem dX11_copy_88 : decode cX11_copy 88 = .ok (.bipush (-9), 2) := by decide +kernel
theorem dX11_copy_90 : decode cX11_copy 90 = .ok (.if_icmp .ne 9, 3) := by decide +kernel
theorem dX11_copy_93 : decode cX11_copy 93 = .ok (.aload_n 0, 1) := by decide +kernel
theorem dX11_copy_94 : decode cX11_copy 94 = .ok (.iconst 1, 1) := by decide +kernel
theorem dX11_copy_95 : decode cX11_copy 95 = .ok (.invokevirtual 128, 3) := by decide +kernel
theorem dX11_copy_98 : decode cX11_copy 98 = .ok (.ireturn, 1) := by decide +kernel
theorem dX11_copy_99 : decode cX11_copy 99 = .ok (.aload_n 0, 1) := by decide +kernel
theorem dX11_copy_100 : decode cX11_copy 100 = .ok (.getfield 53, 3) := by decide +kernel
theorem dX11_copy_103 : decode cX11_copy 103 = .ok (.iload_n 1, 1) := by decide +kernel
theorem dX11_copy_104 : decode cX11_copy 104 = .ok (.iload_n 3, 1) := by decide +kernel
theorem dX11_copy_105 : decode cX11_copy 105 = .ok (.iload 6, 2) := by decide +kernel
theorem dX11_copy_107 : decode cX11_copy 107 = .ok (.invokevirtual 325, 3) := by decide +kernel
theorem dX11_copy_110 : decode cX11_copy 110 = .ok (.ifCond .eq 19, 3) := by decide +kernel
theorem dX11_copy_113 : decode cX11_copy 113 = .ok (.aload_n 0, 1) := by decide +kernel
theorem dX11_copy_114 : decode cX11_copy 114 = .ok (.getfield 53, 3) := by decide +kernel
theorem dX11_copy_117 : decode cX11_copy 117 = .ok (.iload 4, 2) := by decide +kernel
theorem dX11_copy_119 : decode cX11_copy 119 = .ok (.iload 5, 2) := by decide +kernel
theorem dX11_copy_121 : decode cX11_copy 121 = .ok (.iload 6, 2) := by decide +kernel
theorem dX11_copy_123 : decode cX11_copy 123 = .ok (.invokevirtual 325, 3) := by decide +kernel
theorem dX11_copy_126 : decode cX11_copy 126 = .ok (.ifCond .ne 9, 3) := by decide +kernel
theorem dX11_copy_129 : decode cX11_copy 129 = .ok (.aload_n 0, 1) := by decide +kernel
theorem dX11_copy_130 : decode cX11_copy 130 = .ok (.iconst 2, 1) := by decide +kernel
theorem dX11_copy_131 : decode cX11_copy 131 = .ok (.invokevirtual 128, 3) := by decide +kernel
theorem dX11_copy_134 : decode cX11_copy 134 = .ok (.ireturn, 1) := by decide +kernel
theorem dX11_copy_135 : decode cX11_copy 135 = .ok (.aload_n 0, 1) := by decide +kernel
theorem dX11_copy_136 : decode cX11_copy 136 = .ok (.getfield 53, 3) := by decide +kernel
theorem dX11_copy_139 : decode cX11_copy 139 = .ok (.getfield 311, 3) := by decide +kernel
theorem dX11_copy_142 : decode cX11_copy 142 = .ok (.iload_n 1, 1) := by decide +kernel
theorem dX11_copy_143 : decode cX11_copy 143 = .ok (.bipush 12, 2) := by decide +kernel
theorem dX11_copy_145 : decode cX11_copy 145 = .ok (.imul, 1) := by decide +kernel
theorem dX11_copy_146 : decode cX11_copy 146 = .ok (.iload_n 3, 1) := by decide +kernel
theorem dX11_copy_147 : decode cX11_copy 147 = .ok (.iadd, 1) := by decide +kernel
theorem dX11_copy_148 : decode cX11_copy 148 = .ok (.aload_n 0, 1) := by decide +kernel
theorem dX11_copy_149 : decode cX11_copy 149 = .ok (.getfield 53, 3) := by decide +kernel
theorem dX11_copy_152 : decode cX11_copy 152 = .ok (.getfield 311, 3) := by decide +kernel
theorem dX11_copy_155 : decode cX11_copy 155 = .ok (.iload 4, 2) := by decide +kernel
theorem dX11_copy_157 : decode cX11_copy 157 = .ok (.bipush 12, 2) := by decide +kernel
theorem dX11_copy_159 : decode cX11_copy 159 = .ok (.imul, 1) := by decide +kernel
theorem dX11_copy_160 : decode cX11_copy 160 = .ok (.iload 5, 2) := by decide +kernel
theorem dX11_copy_162 : decode cX11_copy 162 = .ok (.iadd, 1) := by decide +kernel
theorem dX11_copy_163 : decode cX11_copy 163 = .ok (.iload 6, 2) := by decide +kernel
theorem dX11_copy_165 : decode cX11_copy 165 = .ok (.invokestatic 328, 3) := by decide +kernel
theorem dX11_copy_168 : decode cX11_copy 168 = .ok (.iconst 1, 1) := by decide +kernel
theorem dX11_copy_169 : decode cX11_copy 169 = .ok (.ireturn, 1) := by decide +kernel
