theorem dX12_told_71 : decode cX12_told 71 = .ok (.iconst 1, 1) := o_4 (u1_7 hc_X12_told_64 rfl) rfl
theorem dX12_told_72 : decode cX12_told 72 = .ok (.goto 9, 3) := o_167 (u1_8 hc_X12_told_64 rfl) (s2_d (u2_d (u1_9 hc_X12_told_64 rfl) (u1_10 hc_X12_told_64 rfl) rfl) rfl) rfl
theorem dX12_told_75 : decode cX12_told 75 = .ok (.iconst 0, 1) := o_3 (u1_11 hc_X12_told_64 rfl) rfl
theorem dX12_told_76 : decode cX12_told 76 = .ok (.goto 5, 3) := o_167 (u1_12 hc_X12_told_64 rfl) (s2_d (u2_d (u1_13 hc_X12_told_64 rfl) (u1_14 hc_X12_told_64 rfl) rfl) rfl) rfl
theorem dX12_told_79 : decode cX12_told 79 = .ok (.bipush (-9), 2) := o_16 (u1_15 hc_X12_told_64 rfl) (s1_d (u1_16 hc_X12_told_64 rfl) rfl) rfl
theorem hc_X12_told_80 : ((bL cX12_told).drop 80).take 18 = [247, 172, 42, 27, 182, 0, 191, 153, 0, 20, 42, 180, 0, 59, 27, 51, 153, 0] := by decide +kernel
theorem dX12_told_81 : decode cX12_told 81 = .ok (.ireturn, 1) := o_172 (u1_1 hc_X12_told_80 rfl) rfl
theorem dX12_told_82 : decode cX12_told 82 = .ok (.aload_n 0, 1) := o_42 (u1_2 hc_X12_told_80 rfl) rfl
theorem dX12_told_83 : decode cX12_told 83 = .ok (.iload_n 1, 1) := o_27 (u1_3 hc_X12_told_80 rfl) rfl
theorem dX12_told_84 : decode cX12_told 84 = .ok (.invokevirtual 191, 3) := o_182 (u1_4 hc_X12_told_80 rfl) (u2_d (u1_5 hc_X12_told_80 rfl) (u1_6 hc_X12_told_80 rfl) rfl) rfl
theorem dX12_told_87 : decode cX12_told 87 = .ok (.ifCond .eq 20, 3) := o_153 (u1_7 hc_X12_told_80 rfl) (s2_d (u2_d (u1_8 hc_X12_told_80 rfl) (u1_9 hc_X12_told_80 rfl) rfl) rfl) rfl
theorem dX12_told_90 : decode cX12_told 90 = .ok (.aload_n 0, 1) := o_42 (u1_10 hc_X12_told_80 rfl) rfl
theorem dX12_told_91 : decode cX12_told 91 = .ok (.getfield 59, 3) := o_180 (u1_11 hc_X12_told_80 rfl) (u2_d (u1_12 hc_X12_told_80 rfl) (u1_13 hc_X12_told_80 rfl) rfl) rfl
theorem dX12_told_94 : decode cX12_told 94 = .ok (.iload_n 1, 1) := o_27 (u1_14 hc_X12_told_80 rfl) rfl
theorem dX12_told_95 : decode cX12_told 95 = .ok (.baload, 1) := o_51 (u1_15 hc_X12_told_80 rfl) rfl
theorem hc_X12_told_96 : ((bL cX12_told).drop 96).take 18 = [153, 0, 7, 4, 167, 0, 9, 3, 167, 0, 5, 16, 247, 172, 42, 180, 0, 86] := by decide +kernel
theorem dX12_told_96 : decode cX12_told 96 = .ok (.ifCond .eq 7, 3) := o_153 (u1_0 hc_X12_told_96 rfl) (s2_d (u2_d (u1_1 hc_X12_told_96 rfl) (u1_2 hc_X12_told_96 rfl) rfl) rfl) rfl
theorem dX12_told_99 : decode cX12_told 99 = .ok (.iconst 1, 1) := o_4 (u1_3 hc_X12_told_96 rfl) rfl
theorem dX12_told_100 : decode cX12_told 100 = .ok (.goto 9, 3) := o_167 (u1_4 hc_X12_told_96 rfl) (s2_d (u2_d (u1_5 hc_X12_told_96 rfl) (u1_6 hc_X12_told_96 rfl) rfl) rfl) rfl
theorem dX12_told_103 : decode cX12_told 103 = .ok (.iconst 0, 1) := o_3 (u1_7 hc_X12_told_96 rfl) rfl
theorem dX12_told_104 : decode cX12_told 104 = .ok (.goto 5, 3) := o_167 (u1_8 hc_X12_told_96 rfl) (s2_d (u2_d (u1_9 hc_X12_told_96 rfl) (u1_10 hc_X12_told_96 rfl) rfl) rfl) rfl
theorem dX12_told_107 : decode cX12_told 107 = .ok (.bipush (-9), 2) := o_16 (u1_11 hc_X12_told_96 rfl) (s1_d (u1_12 hc_X12_told_96 rfl) rfl) rfl
theorem dX12_told_109 : decode cX12_told 109 = .ok (.ireturn, 1) := o_172 (u1_13 hc_X12_told_96 rfl) rfl
theorem dX12_told_110 : decode cX12_told 110 = .ok (.aload_n 0, 1) := o_42 (u1_14 hc_X12_told_96 rfl) rfl
theorem dX12_told_111 : decode cX12_told 111 = .ok (.getfield 86, 3) := o_180 (u1_15 hc_X12_told_96 rfl) (u2_d (u1_16 hc_X12_told_96 rfl) (u1_17 hc_X12_told_96 rfl) rfl) rfl
theorem hc_X12_told_112 : ((bL cX12_told).drop 112).take 18 = [0, 86, 27, 51, 153, 0, 7, 4, 167, 0, 4, 3, 172, 42, 180, 0, 89, 27] := by decide +kernel
theorem dX12_told_114 : decode cX12_told 114 = .ok (.iload_n 1, 1) := o_27 (u1_2 hc_X12_told_112 rfl) rfl
theorem dX12_told_115 : decode cX12_told 115 = .ok (.baload, 1) := o_51 (u1_3 hc_X12_told_112 rfl) rfl
theorem dX12_told_116 : decode cX12_told 116 = .ok (.ifCond .eq 7, 3) := o_153 (u1_4 hc_X12_told_112 rfl) (s2_d (u2_d (u1_5 hc_X12_told_112 rfl) (u1_6 hc_X12_told_112 rfl) rfl) rfl) rfl
theorem dX12_told_119 : decode cX12_told 119 = .ok (.iconst 1, 1) := o_4 (u1_7 hc_X12_told_112 rfl) rfl
theorem dX12_told_120 : decode cX12_told 120 = .ok (.goto 4, 3) := o_167 (u1_8 hc_X12_told_112 rfl) (s2_d (u2_d (u1_9 hc_X12_told_112 rfl) (u1_10 hc_X12_told_112 rfl) rfl) rfl) rfl
theorem dX12_told_123 : decode cX12_told 123 = .ok (.iconst 0, 1) := o_3 (u1_11 hc_X12_told_112 rfl) rfl
theorem dX12_told_124 : decode cX12_told 124 = .ok (.ireturn, 1) := o_172 (u1_12 hc_X12_told_112 rfl) rfl
theorem dX12_told_125 : decode cX12_told 125 = .ok (.aload_n 0, 1) := o_42 (u1_13 hc_X12_told_112 rfl) rfl
theorem dX12_told_126 : decode cX12_told 126 = .ok (.getfield 89, 3) := o_180 (u1_14 hc_X12_told_112 rfl) (u2_d (u1_15 hc_X12_told_112 rfl) (u1_16 hc_X12_told_112 rfl) rfl) rfl
theorem hc_X12_told_128 : ((bL cX12_told).drop 128).take 18 = [89, 27, 51, 153, 0, 7, 4, 167, 0, 4, 3, 172, 42, 27, 182, 1, 148, 172] := by decide +kernel
theorem dX12_told_129 : decode cX12_told 129 = .ok (.iload_n 1, 1) := o_27 (u1_1 hc_X12_told_128 rfl) rfl
theorem dX12_told_130 : decode cX12_told 130 = .ok (.baload, 1) := o_51 (u1_2 hc_X12_told_128 rfl) rfl
theorem dX12_told_131 : decode cX12_told 131 = .ok (.ifCond .eq 7, 3) := o_153 (u1_3 hc_X12_told_128 rfl) (s2_d (u2_d (u1_4 hc_X12_told_128 rfl) (u1_5 hc_X12_told_128 rfl) rfl) rfl) rfl
theorem dX12_told_134 : decode cX12_told 134 = .ok (.iconst 1, 1) := o_4 (u1_6 hc_X12_told_128 rfl) rfl
theorem dX12_told_135 : decode cX12_told 135 = .ok (.goto 4, 3) := o_167 (u1_7 hc_X12_told_128 rfl) (s2_d (u2_d (u1_8 hc_X12_told_128 rfl) (u1_9 hc_X12_told_128 rfl) rfl) rfl) rfl
theorem dX12_told_138 : decode cX12_told 138 = .ok (.iconst 0, 1) := o_3 (u1_10 hc_X12_told_128 rfl) rfl
theorem dX12_told_139 : decode cX12_told 139 = .ok (.ireturn, 1) := o_172 (u1_11 hc_X12_told_128 rfl) rfl
theorem dX12_told_140 : decode cX12_told 140 = .ok (.aload_n 0, 1) := o_42 (u1_12 hc_X12_told_128 rfl) rfl
theorem dX12_told_141 : decode cX12_told 141 = .ok (.iload_n 1, 1) := o_27 (u1_13 hc_X12_told_128 rfl) rfl
theorem dX12_told_142 : decode cX12_told 142 = .ok (.invokevirtual 404, 3) := o_182 (u1_14 hc_X12_told_128 rfl) (u2_d (u1_15 hc_X12_told_128 rfl) (u1_16 hc_X12_told_128 rfl) rfl) rfl
theorem hc_X12_told_144 : ((bL cX12_told).drop 144).take 18 = [148, 172] := by decide +kernel
theorem dX12_told_145 : decode cX12_told 145 = .ok (.ireturn, 1) := o_172 (u1_1 hc_X12_told_144 rfl) rfl
theorem hc_X12_now_0 : ((bL cX12_now).drop 0).take 18 = [42, 27, 182, 0, 180, 153, 0, 15, 28, 133, 9, 20, 0, 164, 184, 0, 166, 154] := by decide +kernel
theorem dX12_now_0 : decode cX12_now 0 = .ok (.aload_n 0, 1) := o_42 (u1_0 hc_X12_now_0 rfl) rfl
theorem dX12_now_1 : decode cX12_now 1 = .ok (.iload_n 1, 1) := o_27 (u1_1 hc_X12_now_0 rfl) rfl
theorem dX12_now_2 : decode cX12_now 2 = .ok (.invokevirtual 180, 3) := o_182 (u1_2 hc_X12_now_0 rfl) (u2_d (u1_3 hc_X12_now_0 rfl) (u1_4 hc_X12_now_0 rfl) rfl) rfl
theorem dX12_now_5 : decode cX12_now 5 = .ok (.ifCond .eq 15, 3) := o_153 (u1_5 hc_X12_now_0 rfl) (s2_d (u2_d (u1_6 hc_X12_now_0 rfl) (u1_7 hc_X12_now_0 rfl) rfl) rfl) rfl
theorem dX12_now_8 : decode cX12_now 8 = .ok (.iload_n 2, 1) := o_28 (u1_8 hc_X12_now_0 rfl) rfl
theorem dX12_now_9 : decode cX12_now 9 = .ok (.i2l, 1) := o_133 (u1_9 hc_X12_now_0 rfl) rfl
theorem dX12_now_10 : decode cX12_now 10 = .ok (.lconst 0, 1) := o_9 (u1_10 hc_X12_now_0 rfl) rfl
theorem dX12_now_11 : decode cX12_now 11 = .ok (.ldc2_w 164, 3) := o_20 (u1_11 hc_X12_now_0 rfl) (u2_d (u1_12 hc_X12_now_0 rfl) (u1_13 hc_X12_now_0 rfl) rfl) rfl
theorem dX12_now_14 : decode cX12_now 14 = .ok (.invokestatic 166, 3) := o_184 (u1_14 hc_X12_now_0 rfl) (u2_d (u1_15 hc_X12_now_0 rfl) (u1_16 hc_X12_now_0 rfl) rfl) rfl
theorem hc_X12_now_16 : ((bL cX12_now).drop 16).take 18 = [166, 154, 0, 5, 2, 172, 42, 180, 0, 155, 16, 247, 160, 0, 6, 16, 251, 172] := by decide +kernel
theorem dX12_now_17 : decode cX12_now 17 = .ok (.ifCond .ne 5, 3) := o_154 (u1_1 hc_X12_now_16 rfl) (s2_d (u2_d (u1_2 hc_X12_now_16 rfl) (u1_3 hc_X12_now_16 rfl) rfl) rfl) rfl
theorem dX12_now_20 : decode cX12_now 20 = .ok (.iconst (-1), 1) := o_2 (u1_4 hc_X12_now_16 rfl) rfl
theorem dX12_now_21 : decode cX12_now 21 = .ok (.ireturn, 1) := o_172 (u1_5 hc_X12_now_16 rfl) rfl
theorem dX12_now_22 : decode cX12_now 22 = .ok (.aload_n 0, 1) := o_42 (u1_6 hc_X12_now_16 rfl) rfl
theorem dX12_now_23 : decode cX12_now 23 = .ok (.getfield 155, 3) := o_180 (u1_7 hc_X12_now_16 rfl) (u2_d (u1_8 hc_X12_now_16 rfl) (u1_9 hc_X12_now_16 rfl) rfl) rfl
theorem dX12_now_26 : decode cX12_now 26 = .ok (.bipush (-9), 2) := o_16 (u1_10 hc_X12_now_16 rfl) (s1_d (u1_11 hc_X12_now_16 rfl) rfl) rfl
theorem dX12_now_28 : decode cX12_now 28 = .ok (.if_icmp .ne 6, 3) := o_160 (u1_12 hc_X12_now_16 rfl) (s2_d (u2_d (u1_13 hc_X12_now_16 rfl) (u1_14 hc_X12_now_16 rfl) rfl) rfl) rfl
theorem dX12_now_31 : decode cX12_now 31 = .ok (.bipush (-5), 2) := o_16 (u1_15 hc_X12_now_16 rfl) (s1_d (u1_16 hc_X12_now_16 rfl) rfl) rfl
theorem hc_X12_now_32 : ((bL cX12_now).drop 32).take 18 = [251, 172, 42, 182, 1, 136, 42, 182, 1, 139, 42, 27, 28, 182, 1, 151, 172] := by decide +kernel
theorem dX12_now_33 : decode cX12_now 33 = .ok (.ireturn, 1) := o_172 (u1_1 hc_X12_now_32 rfl) rfl
theorem dX12_now_34 : decode cX12_now 34 = .ok (.aload_n 0, 1) := o_42 (u1_2 hc_X12_now_32 rfl) rfl
theorem dX12_now_35 : decode cX12_now 35 = .ok (.invokevirtual 392, 3) := o_182 (u1_3 hc_X12_now_32 rfl) (u2_d (u1_4 hc_X12_now_32 rfl) (u1_5 hc_X12_now_32 rfl) rfl) rfl
theorem dX12_now_38 : decode cX12_now 38 = .ok (.aload_n 0, 1) := o_42 (u1_6 hc_X12_now_32 rfl) rfl
theorem dX12_now_39 : decode cX12_now 39 = .ok (.invokevirtual 395, 3) := o_182 (u1_7 hc_X12_now_32 rfl) (u2_d (u1_8 hc_X12_now_32 rfl) (u1_9 hc_X12_now_32 rfl) rfl) rfl
theorem dX12_now_42 : decode cX12_now 42 = .ok (.aload_n 0, 1) := o_42 (u1_10 hc_X12_now_32 rfl) rfl
theorem dX12_now_43 : decode cX12_now 43 = .ok (.iload_n 1, 1) := o_27 (u1_11 hc_X12_now_32 rfl) rfl
theorem dX12_now_44 : decode cX12_now 44 = .ok (.iload_n 2, 1) := o_28 (u1_12 hc_X12_now_32 rfl) rfl
theorem dX12_now_45 : decode cX12_now 45 = .ok (.invokevirtual 407, 3) := o_182 (u1_13 hc_X12_now_32 rfl) (u2_d (u1_14 hc_X12_now_32 rfl) (u1_15 hc_X12_now_32 rfl) rfl) rfl
theorem hc_X12_now_48 : ((bL cX12_now).drop 48).take 18 = [172] := by decide +kernel
theorem dX12_now_48 : decode cX12_now 48 = .ok (.ireturn, 1) := o_172 (u1_0 hc_X12_now_48 rfl) rfl
theorem hc_X12_turn_0 : ((bL cX12_turn).drop 0).take 18 = [27, 155, 0, 15, 28, 133, 9, 20, 0, 254, 184, 0, 166, 154, 0, 5, 2, 172] := by decide +kernel
theorem dX12_turn_0 : decode cX12_turn 0 = .ok (.iload_n 1, 1) := o_27 (u1_0 hc_X12_turn_0 rfl) rfl
theorem dX12_turn_1 : decode cX12_turn 1 = .ok (.ifCond .lt 15, 3) := o_155 (u1_1 hc_X12_turn_0 rfl) (s2_d (u2_d (u1_2 hc_X12_turn_0 rfl) (u1_3 hc_X12_turn_0 rfl) rfl) rfl) rfl
theorem dX12_turn_4 : decode cX12_turn 4 = .ok (.iload_n 2, 1) := o_28 (u1_4 hc_X12_turn_0 rfl) rfl
theorem dX12_turn_5 : decode cX12_turn 5 = .ok (.i2l, 1) := o_133 (u1_5 hc_X12_turn_0 rfl) rfl
theorem dX12_turn_6 : decode cX12_turn 6 = .ok (.lconst 0, 1) := o_9 (u1_6 hc_X12_turn_0 rfl) rfl
theorem dX12_turn_7 : decode cX12_turn 7 = .ok (.ldc2_w 254, 3) := o_20 (u1_7 hc_X12_turn_0 rfl) (u2_d (u1_8 hc_X12_turn_0 rfl) (u1_9 hc_X12_turn_0 rfl) rfl) rfl
theorem dX12_turn_10 : decode cX12_turn 10 = .ok (.invokestatic 166, 3) := o_184 (u1_10 hc_X12_turn_0 rfl) (u2_d (u1_11 hc_X12_turn_0 rfl) (u1_12 hc_X12_turn_0 rfl) rfl) rfl
theorem dX12_turn_13 : decode cX12_turn 13 = .ok (.ifCond .ne 5, 3) := o_154 (u1_13 hc_X12_turn_0 rfl) (s2_d (u2_d (u1_14 hc_X12_turn_0 rfl) (u1_15 hc_X12_turn_0 rfl) rfl) rfl) rfl
theorem hc_X12_turn_16 : ((bL cX12_turn).drop 16).take 18 = [2, 172, 42, 180, 0, 155, 16, 247, 160, 0, 6, 16, 251, 172, 27, 42, 180, 1] := by decide +kernel
theorem dX12_turn_16 : decode cX12_turn 16 = .ok (.iconst (-1), 1) := o_2 (u1_0 hc_X12_turn_16 rfl) rfl
theorem dX12_turn_17 : decode cX12_turn 17 = .ok (.ireturn, 1) := o_172 (u1_1 hc_X12_turn_16 rfl) rfl
theorem dX12_turn_18 : decode cX12_turn 18 = .ok (.aload_n 0, 1) := o_42 (u1_2 hc_X12_turn_16 rfl) rfl
theorem dX12_turn_19 : decode cX12_turn 19 = .ok (.getfield 155, 3) := o_180 (u1_3 hc_X12_turn_16 rfl) (u2_d (u1_4 hc_X12_turn_16 rfl) (u1_5 hc_X12_turn_16 rfl) rfl) rfl
theorem dX12_turn_22 : decode cX12_turn 22 = .ok (.bipush (-9), 2) := o_16 (u1_6 hc_X12_turn_16 rfl) (s1_d (u1_7 hc_X12_turn_16 rfl) rfl) rfl
theorem dX12_turn_24 : decode cX12_turn 24 = .ok (.if_icmp .ne 6, 3) := o_160 (u1_8 hc_X12_turn_16 rfl) (s2_d (u2_d (u1_9 hc_X12_turn_16 rfl) (u1_10 hc_X12_turn_16 rfl) rfl) rfl) rfl
theorem dX12_turn_27 : decode cX12_turn 27 = .ok (.bipush (-5), 2) := o_16 (u1_11 hc_X12_turn_16 rfl) (s1_d (u1_12 hc_X12_turn_16 rfl) rfl) rfl
theorem dX12_turn_29 : decode cX12_turn 29 = .ok (.ireturn, 1) := o_172 (u1_13 hc_X12_turn_16 rfl) rfl
theorem dX12_turn_30 : decode cX12_turn 30 = .ok (.iload_n 1, 1) := o_27 (u1_14 hc_X12_turn_16 rfl) rfl
theorem dX12_turn_31 : decode cX12_turn 31 = .ok (.aload_n 0, 1) := o_42 (u1_15 hc_X12_turn_16 rfl) rfl
theorem hc_X12_turn_32 : ((bL cX12_turn).drop 32).take 18 = [180, 1, 35, 162, 0, 16, 42, 180, 0, 62, 6, 27, 104, 28, 96, 46, 167, 0] := by decide +kernel
theorem dX12_turn_32 : decode cX12_turn 32 = .ok (.getfield 291, 3) := o_180 (u1_0 hc_X12_turn_32 rfl) (u2_d (u1_1 hc_X12_turn_32 rfl) (u1_2 hc_X12_turn_32 rfl) rfl) rfl
theorem dX12_turn_35 : decode cX12_turn 35 = .ok (.if_icmp .ge 16, 3) := o_162 (u1_3 hc_X12_turn_32 rfl) (s2_d (u2_d (u1_4 hc_X12_turn_32 rfl) (u1_5 hc_X12_turn_32 rfl) rfl) rfl) rfl
theorem dX12_turn_38 : decode cX12_turn 38 = .ok (.aload_n 0, 1) := o_42 (u1_6 hc_X12_turn_32 rfl) rfl
theorem dX12_turn_39 : decode cX12_turn 39 = .ok (.getfield 62, 3) := o_180 (u1_7 hc_X12_turn_32 rfl) (u2_d (u1_8 hc_X12_turn_32 rfl) (u1_9 hc_X12_turn_32 rfl) rfl) rfl
theorem dX12_turn_42 : decode cX12_turn 42 = .ok (.iconst 3, 1) := o_6 (u1_10 hc_X12_turn_32 rfl) rfl
theorem dX12_turn_43 : decode cX12_turn 43 = .ok (.iload_n 1, 1) := o_27 (u1_11 hc_X12_turn_32 rfl) rfl
theorem dX12_turn_44 : decode cX12_turn 44 = .ok (.imul, 1) := o_104 (u1_12 hc_X12_turn_32 rfl) rfl
theorem dX12_turn_45 : decode cX12_turn 45 = .ok (.iload_n 2, 1) := o_28 (u1_13 hc_X12_turn_32 rfl) rfl
theorem dX12_turn_46 : decode cX12_turn 46 = .ok (.iadd, 1) := o_96 (u1_14 hc_X12_turn_32 rfl) rfl
theorem dX12_turn_47 : decode cX12_turn 47 = .ok (.iaload, 1) := o_46 (u1_15 hc_X12_turn_32 rfl) rfl
theorem hc_X12_turn_48 : ((bL cX12_turn).drop 48).take 18 = [167, 0, 4, 2, 172] := by decide +kernel
theorem dX12_turn_48 : decode cX12_turn 48 = .ok (.goto 4, 3) := o_167 (u1_0 hc_X12_turn_48 rfl) (s2_d (u2_d (u1_1 hc_X12_turn_48 rfl) (u1_2 hc_X12_turn_48 rfl) rfl) rfl) rfl
theorem dX12_turn_51 : decode cX12_turn 51 = .ok (.iconst (-1), 1) := o_2 (u1_3 hc_X12_turn_48 rfl) rfl
theorem dX12_turn_52 : decode cX12_turn 52 = .ok (.ireturn, 1) := o_172 (u1_4 hc_X12_turn_48 rfl) rfl
theorem hc_X12_light_0 : ((bL cX12_light).drop 0).take 18 = [42, 180, 0, 155, 16, 247, 160, 0, 6, 16, 251, 172, 42, 182, 1, 136, 42, 182] := by decide +kernel
theorem dX12_light_0 : decode cX12_light 0 = .ok (.aload_n 0, 1) := o_42 (u1_0 hc_X12_light_0 rfl) rfl
theorem dX12_light_1 : decode cX12_light 1 = .ok (.getfield 155, 3) := o_180 (u1_1 hc_X12_light_0 rfl) (u2_d (u1_2 hc_X12_light_0 rfl) (u1_3 hc_X12_light_0 rfl) rfl) rfl
theorem dX12_light_4 : decode cX12_light 4 = .ok (.bipush (-9), 2) := o_16 (u1_4 hc_X12_light_0 rfl) (s1_d (u1_5 hc_X12_light_0 rfl) rfl) rfl
theorem dX12_light_6 : decode cX12_light 6 = .ok (.if_icmp .ne 6, 3) := o_160 (u1_6 hc_X12_light_0 rfl) (s2_d (u2_d (u1_7 hc_X12_light_0 rfl) (u1_8 hc_X12_light_0 rfl) rfl) rfl) rfl
theorem dX12_light_9 : decode cX12_light 9 = .ok (.bipush (-5), 2) := o_16 (u1_9 hc_X12_light_0 rfl) (s1_d (u1_10 hc_X12_light_0 rfl) rfl) rfl
theorem dX12_light_11 : decode cX12_light 11 = .ok (.ireturn, 1) := o_172 (u1_11 hc_X12_light_0 rfl) rfl
theorem dX12_light_12 : decode cX12_light 12 = .ok (.aload_n 0, 1) := o_42 (u1_12 hc_X12_light_0 rfl) rfl
theorem dX12_light_13 : decode cX12_light 13 = .ok (.invokevirtual 392, 3) := o_182 (u1_13 hc_X12_light_0 rfl) (u2_d (u1_14 hc_X12_light_0 rfl) (u1_15 hc_X12_light_0 rfl) rfl) rfl
theorem hc_X12_light_16 : ((bL cX12_light).drop 16).take 18 = [42, 182, 1, 139, 42, 180, 1, 85, 153, 0, 7, 4, 167, 0, 4, 3, 172] := by decide +kernel
theorem dX12_light_16 : decode cX12_light 16 = .ok (.aload_n 0, 1) := o_42 (u1_0 hc_X12_light_16 rfl) rfl
theorem dX12_light_17 : decode cX12_light 17 = .ok (.invokevirtual 395, 3) := o_182 (u1_1 hc_X12_light_16 rfl) (u2_d (u1_2 hc_X12_light_16 rfl) (u1_3 hc_X12_light_16 rfl) rfl) rfl
theorem dX12_light_20 : decode cX12_light 20 = .ok (.aload_n 0, 1) := o_42 (u1_4 hc_X12_light_16 rfl) rfl
theorem dX12_light_21 : decode cX12_light 21 = .ok (.getfield 341, 3) := o_180 (u1_5 hc_X12_light_16 rfl) (u2_d (u1_6 hc_X12_light_16 rfl) (u1_7 hc_X12_light_16 rfl) rfl) rfl
theorem dX12_light_24 : decode cX12_light 24 = .ok (.ifCond .eq 7, 3) := o_153 (u1_8 hc_X12_light_16 rfl) (s2_d (u2_d (u1_9 hc_X12_light_16 rfl) (u1_10 hc_X12_light_16 rfl) rfl) rfl) rfl
theorem dX12_light_27 : decode cX12_light 27 = .ok (.iconst 1, 1) := o_4 (u1_11 hc_X12_light_16 rfl) rfl
theorem dX12_light_28 : decode cX12_light 28 = .ok (.goto 4, 3) := o_167 (u1_12 hc_X12_light_16 rfl) (s2_d (u2_d (u1_13 hc_X12_light_16 rfl) (u1_14 hc_X12_light_16 rfl) rfl) rfl) rfl
theorem dX12_light_31 : decode cX12_light 31 = .ok (.iconst 0, 1) := o_3 (u1_15 hc_X12_light_16 rfl) rfl
theorem hc_X12_light_32 : ((bL cX12_light).drop 32).take 18 = [172] := by decide +kernel
theorem dX12_light_32 : decode cX12_light 32 = .ok (.ireturn, 1) := o_172 (u1_0 hc_X12_light_32 rfl) rfl
theorem hc_X12_keepState_0 : ((bL cX12_keepState).drop 0).take 18 = [3, 61, 28, 42, 180, 0, 177, 162, 0, 86, 42, 180, 0, 107, 16, 30, 27, 104] := by decide +kernel
theorem dX12_keepState_0 : decode cX12_keepState 0 = .ok (.iconst 0, 1) := o_3 (u1_0 hc_X12_keepState_0 rfl) rfl
theorem dX12_keepState_1 : decode cX12_keepState 1 = .ok (.istore_n 2, 1) := o_61 (u1_1 hc_X12_keepState_0 rfl) rfl
theorem dX12_keepState_2 : decode cX12_keepState 2 = .ok (.iload_n 2, 1) := o_28 (u1_2 hc_X12_keepState_0 rfl) rfl
theorem dX12_keepState_3 : decode cX12_keepState 3 = .ok (.aload_n 0, 1) := o_42 (u1_3 hc_X12_keepState_0 rfl) rfl
theorem dX12_keepState_4 : decode cX12_keepState 4 = .ok (.getfield 177, 3) := o_180 (u1_4 hc_X12_keepState_0 rfl) (u2_d (u1_5 hc_X12_keepState_0 rfl) (u1_6 hc_X12_keepState_0 rfl) rfl) rfl
theorem dX12_keepState_7 : decode cX12_keepState 7 = .ok (.if_icmp .ge 86, 3) := o_162 (u1_7 hc_X12_keepState_0 rfl) (s2_d (u2_d (u1_8 hc_X12_keepState_0 rfl) (u1_9 hc_X12_keepState_0 rfl) rfl) rfl) rfl
theorem dX12_keepState_10 : decode cX12_keepState 10 = .ok (.aload_n 0, 1) := o_42 (u1_10 hc_X12_keepState_0 rfl) rfl
theorem dX12_keepState_11 : decode cX12_keepState 11 = .ok (.getfield 107, 3) := o_180 (u1_11 hc_X12_keepState_0 rfl) (u2_d (u1_12 hc_X12_keepState_0 rfl) (u1_13 hc_X12_keepState_0 rfl) rfl) rfl
theorem dX12_keepState_14 : decode cX12_keepState 14 = .ok (.bipush 30, 2) := o_16 (u1_14 hc_X12_keepState_0 rfl) (s1_d (u1_15 hc_X12_keepState_0 rfl) rfl) rfl
theorem hc_X12_keepState_16 : ((bL cX12_keepState).drop 16).take 18 = [27, 104, 28, 96, 42, 180, 0, 50, 28, 46, 145, 84, 42, 180, 0, 111, 16, 30] := by decide +kernel
theorem dX12_keepState_16 : decode cX12_keepState 16 = .ok (.iload_n 1, 1) := o_27 (u1_0 hc_X12_keepState_16 rfl) rfl
theorem dX12_keepState_17 : decode cX12_keepState 17 = .ok (.imul, 1) := o_104 (u1_1 hc_X12_keepState_16 rfl) rfl
theorem dX12_keepState_18 : decode cX12_keepState 18 = .ok (.iload_n 2, 1) := o_28 (u1_2 hc_X12_keepState_16 rfl) rfl
theorem dX12_keepState_19 : decode cX12_keepState 19 = .ok (.iadd, 1) := o_96 (u1_3 hc_X12_keepState_16 rfl) rfl
theorem dX12_keepState_20 : decode cX12_keepState 20 = .ok (.aload_n 0, 1) := o_42 (u1_4 hc_X12_keepState_16 rfl) rfl
theorem dX12_keepState_21 : decode cX12_keepState 21 = .ok (.getfield 50, 3) := o_180 (u1_5 hc_X12_keepState_16 rfl) (u2_d (u1_6 hc_X12_keepState_16 rfl) (u1_7 hc_X12_keepState_16 rfl) rfl) rfl
theorem dX12_keepState_24 : decode cX12_keepState 24 = .ok (.iload_n 2, 1) := o_28 (u1_8 hc_X12_keepState_16 rfl) rfl
theorem dX12_keepState_25 : decode cX12_keepState 25 = .ok (.iaload, 1) := o_46 (u1_9 hc_X12_keepState_16 rfl) rfl
theorem dX12_keepState_26 : decode cX12_keepState 26 = .ok (.i2b, 1) := o_145 (u1_10 hc_X12_keepState_16 rfl) rfl
theorem dX12_keepState_27 : decode cX12_keepState 27 = .ok (.bastore, 1) := o_84 (u1_11 hc_X12_keepState_16 rfl) rfl
theorem dX12_keepState_28 : decode cX12_keepState 28 = .ok (.aload_n 0, 1) := o_42 (u1_12 hc_X12_keepState_16 rfl) rfl
theorem dX12_keepState_29 : decode cX12_keepState 29 = .ok (.getfield 111, 3) := o_180 (u1_13 hc_X12_keepState_16 rfl) (u2_d (u1_14 hc_X12_keepState_16 rfl) (u1_15 hc_X12_keepState_16 rfl) rfl) rfl
theorem hc_X12_keepState_32 : ((bL cX12_keepState).drop 32).take 18 = [16, 30, 27, 104, 28, 96, 42, 180, 0, 53, 28, 46, 145, 84, 42, 180, 0, 114] := by decide +kernel
theorem dX12_keepState_32 : decode cX12_keepState 32 = .ok (.bipush 30, 2) := o_16 (u1_0 hc_X12_keepState_32 rfl) (s1_d (u1_1 hc_X12_keepState_32 rfl) rfl) rfl
theorem dX12_keepState_34 : decode cX12_keepState 34 = .ok (.iload_n 1, 1) := o_27 (u1_2 hc_X12_keepState_32 rfl) rfl
theorem dX12_keepState_35 : decode cX12_keepState 35 = .ok (.imul, 1) := o_104 (u1_3 hc_X12_keepState_32 rfl) rfl
theorem dX12_keepState_36 : decode cX12_keepState 36 = .ok (.iload_n 2, 1) := o_28 (u1_4 hc_X12_keepState_32 rfl) rfl
theorem dX12_keepState_37 : decode cX12_keepState 37 = .ok (.iadd, 1) := o_96 (u1_5 hc_X12_keepState_32 rfl) rfl
theorem dX12_keepState_38 : decode cX12_keepState 38 = .ok (.aload_n 0, 1) := o_42 (u1_6 hc_X12_keepState_32 rfl) rfl
theorem dX12_keepState_39 : decode cX12_keepState 39 = .ok (.getfield 53, 3) := o_180 (u1_7 hc_X12_keepState_32 rfl) (u2_d (u1_8 hc_X12_keepState_32 rfl) (u1_9 hc_X12_keepState_32 rfl) rfl) rfl
theorem dX12_keepState_42 : decode cX12_keepState 42 = .ok (.iload_n 2, 1) := o_28 (u1_10 hc_X12_keepState_32 rfl) rfl
theorem dX12_keepState_43 : decode cX12_keepState 43 = .ok (.iaload, 1) := o_46 (u1_11 hc_X12_keepState_32 rfl) rfl
theorem dX12_keepState_44 : decode cX12_keepState 44 = .ok (.i2b, 1) := o_145 (u1_12 hc_X12_keepState_32 rfl) rfl
theorem dX12_keepState_45 : decode cX12_keepState 45 = .ok (.bastore, 1) := o_84 (u1_13 hc_X12_keepState_32 rfl) rfl
theorem dX12_keepState_46 : decode cX12_keepState 46 = .ok (.aload_n 0, 1) := o_42 (u1_14 hc_X12_keepState_32 rfl) rfl
theorem dX12_keepState_47 : decode cX12_keepState 47 = .ok (.getfield 114, 3) := o_180 (u1_15 hc_X12_keepState_32 rfl) (u2_d (u1_16 hc_X12_keepState_32 rfl) (u1_17 hc_X12_keepState_32 rfl) rfl) rfl
theorem hc_X12_keepState_48 : ((bL cX12_keepState).drop 48).take 18 = [0, 114, 16, 30, 27, 104, 28, 96, 42, 180, 0, 56, 28, 51, 153, 0, 7, 4] := by decide +kernel
theorem dX12_keepState_50 : decode cX12_keepState 50 = .ok (.bipush 30, 2) := o_16 (u1_2 hc_X12_keepState_48 rfl) (s1_d (u1_3 hc_X12_keepState_48 rfl) rfl) rfl
theorem dX12_keepState_52 : decode cX12_keepState 52 = .ok (.iload_n 1, 1) := o_27 (u1_4 hc_X12_keepState_48 rfl) rfl
theorem dX12_keepState_53 : decode cX12_keepState 53 = .ok (.imul, 1) := o_104 (u1_5 hc_X12_keepState_48 rfl) rfl
theorem dX12_keepState_54 : decode cX12_keepState 54 = .ok (.iload_n 2, 1) := o_28 (u1_6 hc_X12_keepState_48 rfl) rfl
theorem dX12_keepState_55 : decode cX12_keepState 55 = .ok (.iadd, 1) := o_96 (u1_7 hc_X12_keepState_48 rfl) rfl
theorem dX12_keepState_56 : decode cX12_keepState 56 = .ok (.aload_n 0, 1) := o_42 (u1_8 hc_X12_keepState_48 rfl) rfl
theorem dX12_keepState_57 : decode cX12_keepState 57 = .ok (.getfield 56, 3) := o_180 (u1_9 hc_X12_keepState_48 rfl) (u2_d (u1_10 hc_X12_keepState_48 rfl) (u1_11 hc_X12_keepState_48 rfl) rfl) rfl
theorem dX12_keepState_60 : decode cX12_keepState 60 = .ok (.iload_n 2, 1) := o_28 (u1_12 hc_X12_keepState_48 rfl) rfl
theorem dX12_keepState_61 : decode cX12_keepState 61 = .ok (.baload, 1) := o_51 (u1_13 hc_X12_keepState_48 rfl) rfl
theorem dX12_keepState_62 : decode cX12_keepState 62 = .ok (.ifCond .eq 7, 3) := o_153 (u1_14 hc_X12_keepState_48 rfl) (s2_d (u2_d (u1_15 hc_X12_keepState_48 rfl) (u1_16 hc_X12_keepState_48 rfl) rfl) rfl) rfl
theorem hc_X12_keepState_64 : ((bL cX12_keepState).drop 64).take 18 = [7, 4, 167, 0, 4, 3, 42, 180, 0, 59, 28, 51, 153, 0, 7, 5, 167, 0] := by decide +kernel
theorem dX12_keepState_65 : decode cX12_keepState 65 = .ok (.iconst 1, 1) := o_4 (u1_1 hc_X12_keepState_64 rfl) rfl
theorem dX12_keepState_66 : decode cX12_keepState 66 = .ok (.goto 4, 3) := o_167 (u1_2 hc_X12_keepState_64 rfl) (s2_d (u2_d (u1_3 hc_X12_keepState_64 rfl) (u1_4 hc_X12_keepState_64 rfl) rfl) rfl) rfl
theorem dX12_keepState_69 : decode cX12_keepState 69 = .ok (.iconst 0, 1) := o_3 (u1_5 hc_X12_keepState_64 rfl) rfl
theorem dX12_keepState_70 : decode cX12_keepState 70 = .ok (.aload_n 0, 1) := o_42 (u1_6 hc_X12_keepState_64 rfl) rfl
theorem dX12_keepState_71 : decode cX12_keepState 71 = .ok (.getfield 59, 3) := o_180 (u1_7 hc_X12_keepState_64 rfl) (u2_d (u1_8 hc_X12_keepState_64 rfl) (u1_9 hc_X12_keepState_64 rfl) rfl) rfl
theorem dX12_keepState_74 : decode cX12_keepState 74 = .ok (.iload_n 2, 1) := o_28 (u1_10 hc_X12_keepState_64 rfl) rfl
theorem dX12_keepState_75 : decode cX12_keepState 75 = .ok (.baload, 1) := o_51 (u1_11 hc_X12_keepState_64 rfl) rfl
theorem dX12_keepState_76 : decode cX12_keepState 76 = .ok (.ifCond .eq 7, 3) := o_153 (u1_12 hc_X12_keepState_64 rfl) (s2_d (u2_d (u1_13 hc_X12_keepState_64 rfl) (u1_14 hc_X12_keepState_64 rfl) rfl) rfl) rfl
theorem dX12_keepState_79 : decode cX12_keepState 79 = .ok (.iconst 2, 1) := o_5 (u1_15 hc_X12_keepState_64 rfl) rfl
theorem hc_X12_keepState_80 : ((bL cX12_keepState).drop 80).take 18 = [167, 0, 4, 3, 96, 145, 84, 132, 2, 1, 167, 255, 168, 177] := by decide +kernel
theorem dX12_keepState_80 : decode cX12_keepState 80 = .ok (.goto 4, 3) := o_167 (u1_0 hc_X12_keepState_80 rfl) (s2_d (u2_d (u1_1 hc_X12_keepState_80 rfl) (u1_2 hc_X12_keepState_80 rfl) rfl) rfl) rfl
theorem dX12_keepState_83 : decode cX12_keepState 83 = .ok (.iconst 0, 1) := o_3 (u1_3 hc_X12_keepState_80 rfl) rfl
theorem dX12_keepState_84 : decode cX12_keepState 84 = .ok (.iadd, 1) := o_96 (u1_4 hc_X12_keepState_80 rfl) rfl
theorem dX12_keepState_85 : decode cX12_keepState 85 = .ok (.i2b, 1) := o_145 (u1_5 hc_X12_keepState_80 rfl) rfl
theorem dX12_keepState_86 : decode cX12_keepState 86 = .ok (.bastore, 1) := o_84 (u1_6 hc_X12_keepState_80 rfl) rfl
theorem dX12_keepState_87 : decode cX12_keepState 87 = .ok (.iinc 2 1, 3) := o_132 (u1_7 hc_X12_keepState_80 rfl) (u1_8 hc_X12_keepState_80 rfl) (s1_d (u1_9 hc_X12_keepState_80 rfl) rfl) rfl
theorem dX12_keepState_90 : decode cX12_keepState 90 = .ok (.goto (-88), 3) := o_167 (u1_10 hc_X12_keepState_80 rfl) (s2_d (u2_d (u1_11 hc_X12_keepState_80 rfl) (u1_12 hc_X12_keepState_80 rfl) rfl) rfl) rfl
theorem dX12_keepState_93 : decode cX12_keepState 93 = .ok (.return_, 1) := o_177 (u1_13 hc_X12_keepState_80 rfl) rfl
theorem hc_X12_giveState_0 : ((bL cX12_giveState).drop 0).take 18 = [3, 61, 28, 42, 180, 0, 177, 162, 0, 99, 42, 180, 0, 50, 28, 42, 180, 0] := by decide +kernel
theorem dX12_giveState_0 : decode cX12_giveState 0 = .ok (.iconst 0, 1) := o_3 (u1_0 hc_X12_giveState_0 rfl) rfl
theorem dX12_giveState_1 : decode cX12_giveState 1 = .ok (.istore_n 2, 1) := o_61 (u1_1 hc_X12_giveState_0 rfl) rfl
theorem dX12_giveState_2 : decode cX12_giveState 2 = .ok (.iload_n 2, 1) := o_28 (u1_2 hc_X12_giveState_0 rfl) rfl
theorem dX12_giveState_3 : decode cX12_giveState 3 = .ok (.aload_n 0, 1) := o_42 (u1_3 hc_X12_giveState_0 rfl) rfl
theorem dX12_giveState_4 : decode cX12_giveState 4 = .ok (.getfield 177, 3) := o_180 (u1_4 hc_X12_giveState_0 rfl) (u2_d (u1_5 hc_X12_giveState_0 rfl) (u1_6 hc_X12_giveState_0 rfl) rfl) rfl
theorem dX12_giveState_7 : decode cX12_giveState 7 = .ok (.if_icmp .ge 99, 3) := o_162 (u1_7 hc_X12_giveState_0 rfl) (s2_d (u2_d (u1_8 hc_X12_giveState_0 rfl) (u1_9 hc_X12_giveState_0 rfl) rfl) rfl) rfl
theorem dX12_giveState_10 : decode cX12_giveState 10 = .ok (.aload_n 0, 1) := o_42 (u1_10 hc_X12_giveState_0 rfl) rfl
theorem dX12_giveState_11 : decode cX12_giveState 11 = .ok (.getfield 50, 3) := o_180 (u1_11 hc_X12_giveState_0 rfl) (u2_d (u1_12 hc_X12_giveState_0 rfl) (u1_13 hc_X12_giveState_0 rfl) rfl) rfl
theorem dX12_giveState_14 : decode cX12_giveState 14 = .ok (.iload_n 2, 1) := o_28 (u1_14 hc_X12_giveState_0 rfl) rfl
theorem dX12_giveState_15 : decode cX12_giveState 15 = .ok (.aload_n 0, 1) := o_42 (u1_15 hc_X12_giveState_0 rfl) rfl
theorem hc_X12_giveState_16 : ((bL cX12_giveState).drop 16).take 18 = [180, 0, 107, 16, 30, 27, 104, 28, 96, 51, 79, 42, 180, 0, 53, 28, 42, 180] := by decide +kernel
theorem dX12_giveState_16 : decode cX12_giveState 16 = .ok (.getfield 107, 3) := o_180 (u1_0 hc_X12_giveState_16 rfl) (u2_d (u1_1 hc_X12_giveState_16 rfl) (u1_2 hc_X12_giveState_16 rfl) rfl) rfl
theorem dX12_giveState_19 : decode cX12_giveState 19 = .ok (.bipush 30, 2) := o_16 (u1_3 hc_X12_giveState_16 rfl) (s1_d (u1_4 hc_X12_giveState_16 rfl) rfl) rfl
theorem dX12_giveState_21 : decode cX12_giveState 21 = .ok (.iload_n 1, 1) := o_27 (u1_5 hc_X12_giveState_16 rfl) rfl
theorem dX12_giveState_22 : decode cX12_giveState 22 = .ok (.imul, 1) := o_104 (u1_6 hc_X12_giveState_16 rfl) rfl
theorem dX12_giveState_23 : decode cX12_giveState 23 = .ok (.iload_n 2, 1) := o_28 (u1_7 hc_X12_giveState_16 rfl) rfl
theorem dX12_giveState_24 : decode cX12_giveState 24 = .ok (.iadd, 1) := o_96 (u1_8 hc_X12_giveState_16 rfl) rfl
theorem dX12_giveState_25 : decode cX12_giveState 25 = .ok (.baload, 1) := o_51 (u1_9 hc_X12_giveState_16 rfl) rfl
theorem dX12_giveState_26 : decode cX12_giveState 26 = .ok (.iastore, 1) := o_79 (u1_10 hc_X12_giveState_16 rfl) rfl
theorem dX12_giveState_27 : decode cX12_giveState 27 = .ok (.aload_n 0, 1) := o_42 (u1_11 hc_X12_giveState_16 rfl) rfl
theorem dX12_giveState_28 : decode cX12_giveState 28 = .ok (.getfield 53, 3) := o_180 (u1_12 hc_X12_giveState_16 rfl) (u2_d (u1_13 hc_X12_giveState_16 rfl) (u1_14 hc_X12_giveState_16 rfl) rfl) rfl
theorem dX12_giveState_31 : decode cX12_giveState 31 = .ok (.iload_n 2, 1) := o_28 (u1_15 hc_X12_giveState_16 rfl) rfl
theorem hc_X12_giveState_32 : ((bL cX12_giveState).drop 32).take 18 = [42, 180, 0, 111, 16, 30, 27, 104, 28, 96, 51, 79, 42, 180, 0, 56, 28, 42] := by decide +kernel
theorem dX12_giveState_32 : decode cX12_giveState 32 = .ok (.aload_n 0, 1) := o_42 (u1_0 hc_X12_giveState_32 rfl) rfl
theorem dX12_giveState_33 : decode cX12_giveState 33 = .ok (.getfield 111, 3) := o_180 (u1_1 hc_X12_giveState_32 rfl) (u2_d (u1_2 hc_X12_giveState_32 rfl) (u1_3 hc_X12_giveState_32 rfl) rfl) rfl
theorem dX12_giveState_36 : decode cX12_giveState 36 = .ok (.bipush 30, 2) := o_16 (u1_4 hc_X12_giveState_32 rfl) (s1_d (u1_5 hc_X12_giveState_32 rfl) rfl) rfl
theorem dX12_giveState_38 : decode cX12_giveState 38 = .ok (.iload_n 1, 1) := o_27 (u1_6 hc_X12_giveState_32 rfl) rfl
theorem dX12_giveState_39 : decode cX12_giveState 39 = .ok (.imul, 1) := o_104 (u1_7 hc_X12_giveState_32 rfl) rfl
theorem dX12_giveState_40 : decode cX12_giveState 40 = .ok (.iload_n 2, 1) := o_28 (u1_8 hc_X12_giveState_32 rfl) rfl
theorem dX12_giveState_41 : decode cX12_giveState 41 = .ok (.iadd, 1) := o_96 (u1_9 hc_X12_giveState_32 rfl) rfl
theorem dX12_giveState_42 : decode cX12_giveState 42 = .ok (.baload, 1) := o_51 (u1_10 hc_X12_giveState_32 rfl) rfl
theorem dX12_giveState_43 : decode cX12_giveState 43 = .ok (.iastore, 1) := o_79 (u1_11 hc_X12_giveState_32 rfl) rfl
theorem dX12_giveState_44 : decode cX12_giveState 44 = .ok (.aload_n 0, 1) := o_42 (u1_12 hc_X12_giveState_32 rfl) rfl
theorem dX12_giveState_45 : decode cX12_giveState 45 = .ok (.getfield 56, 3) := o_180 (u1_13 hc_X12_giveState_32 rfl) (u2_d (u1_14 hc_X12_giveState_32 rfl) (u1_15 hc_X12_giveState_32 rfl) rfl) rfl
theorem hc_X12_giveState_48 : ((bL cX12_giveState).drop 48).take 18 = [28, 42, 180, 0, 114, 16, 30, 27, 104, 28, 96, 51, 4, 126, 4, 160, 0, 7] := by decide +kernel
theorem dX12_giveState_48 : decode cX12_giveState 48 = .ok (.iload_n 2, 1) := o_28 (u1_0 hc_X12_giveState_48 rfl) rfl
theorem dX12_giveState_49 : decode cX12_giveState 49 = .ok (.aload_n 0, 1) := o_42 (u1_1 hc_X12_giveState_48 rfl) rfl
theorem dX12_giveState_50 : decode cX12_giveState 50 = .ok (.getfield 114, 3) := o_180 (u1_2 hc_X12_giveState_48 rfl) (u2_d (u1_3 hc_X12_giveState_48 rfl) (u1_4 hc_X12_giveState_48 rfl) rfl) rfl
theorem dX12_giveState_53 : decode cX12_giveState 53 = .ok (.bipush 30, 2) := o_16 (u1_5 hc_X12_giveState_48 rfl) (s1_d (u1_6 hc_X12_giveState_48 rfl) rfl) rfl
theorem dX12_giveState_55 : decode cX12_giveState 55 = .ok (.iload_n 1, 1) := o_27 (u1_7 hc_X12_giveState_48 rfl) rfl
theorem dX12_giveState_56 : decode cX12_giveState 56 = .ok (.imul, 1) := o_104 (u1_8 hc_X12_giveState_48 rfl) rfl
theorem dX12_giveState_57 : decode cX12_giveState 57 = .ok (.iload_n 2, 1) := o_28 (u1_9 hc_X12_giveState_48 rfl) rfl
theorem dX12_giveState_58 : decode cX12_giveState 58 = .ok (.iadd, 1) := o_96 (u1_10 hc_X12_giveState_48 rfl) rfl
theorem dX12_giveState_59 : decode cX12_giveState 59 = .ok (.baload, 1) := o_51 (u1_11 hc_X12_giveState_48 rfl) rfl
theorem dX12_giveState_60 : decode cX12_giveState 60 = .ok (.iconst 1, 1) := o_4 (u1_12 hc_X12_giveState_48 rfl) rfl
theorem dX12_giveState_61 : decode cX12_giveState 61 = .ok (.iand, 1) := o_126 (u1_13 hc_X12_giveState_48 rfl) rfl
theorem dX12_giveState_62 : decode cX12_giveState 62 = .ok (.iconst 1, 1) := o_4 (u1_14 hc_X12_giveState_48 rfl) rfl
theorem dX12_giveState_63 : decode cX12_giveState 63 = .ok (.if_icmp .ne 7, 3) := o_160 (u1_15 hc_X12_giveState_48 rfl) (s2_d (u2_d (u1_16 hc_X12_giveState_48 rfl) (u1_17 hc_X12_giveState_48 rfl) rfl) rfl) rfl
theorem hc_X12_giveState_64 : ((bL cX12_giveState).drop 64).take 18 = [0, 7, 4, 167, 0, 4, 3, 84, 42, 180, 0, 59, 28, 42, 180, 0, 114, 16] := by decide +kernel
theorem dX12_giveState_66 : decode cX12_giveState 66 = .ok (.iconst 1, 1) := o_4 (u1_2 hc_X12_giveState_64 rfl) rfl
theorem dX12_giveState_67 : decode cX12_giveState 67 = .ok (.goto 4, 3) := o_167 (u1_3 hc_X12_giveState_64 rfl) (s2_d (u2_d (u1_4 hc_X12_giveState_64 rfl) (u1_5 hc_X12_giveState_64 rfl) rfl) rfl) rfl
theorem dX12_giveState_70 : decode cX12_giveState 70 = .ok (.iconst 0, 1) := o_3 (u1_6 hc_X12_giveState_64 rfl) rfl
theorem dX12_giveState_71 : decode cX12_giveState 71 = .ok (.bastore, 1) := o_84 (u1_7 hc_X12_giveState_64 rfl) rfl
theorem dX12_giveState_72 : decode cX12_giveState 72 = .ok (.aload_n 0, 1) := o_42 (u1_8 hc_X12_giveState_64 rfl) rfl
theorem dX12_giveState_73 : decode cX12_giveState 73 = .ok (.getfield 59, 3) := o_180 (u1_9 hc_X12_giveState_64 rfl) (u2_d (u1_10 hc_X12_giveState_64 rfl) (u1_11 hc_X12_giveState_64 rfl) rfl) rfl
theorem dX12_giveState_76 : decode cX12_giveState 76 = .ok (.iload_n 2, 1) := o_28 (u1_12 hc_X12_giveState_64 rfl) rfl
theorem dX12_giveState_77 : decode cX12_giveState 77 = .ok (.aload_n 0, 1) := o_42 (u1_13 hc_X12_giveState_64 rfl) rfl
theorem dX12_giveState_78 : decode cX12_giveState 78 = .ok (.getfield 114, 3) := o_180 (u1_14 hc_X12_giveState_64 rfl) (u2_d (u1_15 hc_X12_giveState_64 rfl) (u1_16 hc_X12_giveState_64 rfl) rfl) rfl
theorem hc_X12_giveState_80 : ((bL cX12_giveState).drop 80).take 18 = [114, 16, 30, 27, 104, 28, 96, 51, 5, 126, 5, 160, 0, 7, 4, 167, 0, 4] := by decide +kernel
theorem dX12_giveState_81 : decode cX12_giveState 81 = .ok (.bipush 30, 2) := o_16 (u1_1 hc_X12_giveState_80 rfl) (s1_d (u1_2 hc_X12_giveState_80 rfl) rfl) rfl
theorem dX12_giveState_83 : decode cX12_giveState 83 = .ok (.iload_n 1, 1) := o_27 (u1_3 hc_X12_giveState_80 rfl) rfl
theorem dX12_giveState_84 : decode cX12_giveState 84 = .ok (.imul, 1) := o_104 (u1_4 hc_X12_giveState_80 rfl) rfl
theorem dX12_giveState_85 : decode cX12_giveState 85 = .ok (.iload_n 2, 1) := o_28 (u1_5 hc_X12_giveState_80 rfl) rfl
theorem dX12_giveState_86 : decode cX12_giveState 86 = .ok (.iadd, 1) := o_96 (u1_6 hc_X12_giveState_80 rfl) rfl
theorem dX12_giveState_87 : decode cX12_giveState 87 = .ok (.baload, 1) := o_51 (u1_7 hc_X12_giveState_80 rfl) rfl
theorem dX12_giveState_88 : decode cX12_giveState 88 = .ok (.iconst 2, 1) := o_5 (u1_8 hc_X12_giveState_80 rfl) rfl
theorem dX12_giveState_89 : decode cX12_giveState 89 = .ok (.iand, 1) := o_126 (u1_9 hc_X12_giveState_80 rfl) rfl
theorem dX12_giveState_90 : decode cX12_giveState 90 = .ok (.iconst 2, 1) := o_5 (u1_10 hc_X12_giveState_80 rfl) rfl
theorem dX12_giveState_91 : decode cX12_giveState 91 = .ok (.if_icmp .ne 7, 3) := o_160 (u1_11 hc_X12_giveState_80 rfl) (s2_d (u2_d (u1_12 hc_X12_giveState_80 rfl) (u1_13 hc_X12_giveState_80 rfl) rfl) rfl) rfl
theorem dX12_giveState_94 : decode cX12_giveState 94 = .ok (.iconst 1, 1) := o_4 (u1_14 hc_X12_giveState_80 rfl) rfl
theorem dX12_giveState_95 : decode cX12_giveState 95 = .ok (.goto 4, 3) := o_167 (u1_15 hc_X12_giveState_80 rfl) (s2_d (u2_d (u1_16 hc_X12_giveState_80 rfl) (u1_17 hc_X12_giveState_80 rfl) rfl) rfl) rfl
theorem hc_X12_giveState_96 : ((bL cX12_giveState).drop 96).take 18 = [0, 4, 3, 84, 132, 2, 1, 167, 255, 155, 177] := by decide +kernel
theorem dX12_giveState_98 : decode cX12_giveState 98 = .ok (.iconst 0, 1) := o_3 (u1_2 hc_X12_giveState_96 rfl) rfl
theorem dX12_giveState_99 : decode cX12_giveState 99 = .ok (.bastore, 1) := o_84 (u1_3 hc_X12_giveState_96 rfl) rfl
theorem dX12_giveState_100 : decode cX12_giveState 100 = .ok (.iinc 2 1, 3) := o_132 (u1_4 hc_X12_giveState_96 rfl) (u1_5 hc_X12_giveState_96 rfl) (s1_d (u1_6 hc_X12_giveState_96 rfl) rfl) rfl
theorem dX12_giveState_103 : decode cX12_giveState 103 = .ok (.goto (-101), 3) := o_167 (u1_7 hc_X12_giveState_96 rfl) (s2_d (u2_d (u1_8 hc_X12_giveState_96 rfl) (u1_9 hc_X12_giveState_96 rfl) rfl) rfl) rfl
theorem dX12_giveState_106 : decode cX12_giveState 106 = .ok (.return_, 1) := o_177 (u1_10 hc_X12_giveState_96 rfl) rfl
theorem hc_X12_isState_0 : ((bL cX12_isState).drop 0).take 18 = [3, 61, 28, 42, 180, 0, 177, 162, 0, 94, 42, 180, 0, 107, 16, 30, 27, 104] := by decide +kernel
theorem dX12_isState_0 : decode cX12_isState 0 = .ok (.iconst 0, 1) := o_3 (u1_0 hc_X12_isState_0 rfl) rfl
theorem dX12_isState_1 : decode cX12_isState 1 = .ok (.istore_n 2, 1) := o_61 (u1_1 hc_X12_isState_0 rfl) rfl
theorem dX12_isState_2 : decode cX12_isState 2 = .ok (.iload_n 2, 1) := o_28 (u1_2 hc_X12_isState_0 rfl) rfl
theorem dX12_isState_3 : decode cX12_isState 3 = .ok (.aload_n 0, 1) := o_42 (u1_3 hc_X12_isState_0 rfl) rfl
theorem dX12_isState_4 : decode cX12_isState 4 = .ok (.getfield 177, 3) := o_180 (u1_4 hc_X12_isState_0 rfl) (u2_d (u1_5 hc_X12_isState_0 rfl) (u1_6 hc_X12_isState_0 rfl) rfl) rfl
theorem dX12_isState_7 : decode cX12_isState 7 = .ok (.if_icmp .ge 94, 3) := o_162 (u1_7 hc_X12_isState_0 rfl) (s2_d (u2_d (u1_8 hc_X12_isState_0 rfl) (u1_9 hc_X12_isState_0 rfl) rfl) rfl) rfl
theorem dX12_isState_10 : decode cX12_isState 10 = .ok (.aload_n 0, 1) := o_42 (u1_10 hc_X12_isState_0 rfl) rfl
theorem dX12_isState_11 : decode cX12_isState 11 = .ok (.getfield 107, 3) := o_180 (u1_11 hc_X12_isState_0 rfl) (u2_d (u1_12 hc_X12_isState_0 rfl) (u1_13 hc_X12_isState_0 rfl) rfl) rfl
theorem dX12_isState_14 : decode cX12_isState 14 = .ok (.bipush 30, 2) := o_16 (u1_14 hc_X12_isState_0 rfl) (s1_d (u1_15 hc_X12_isState_0 rfl) rfl) rfl
theorem hc_X12_isState_16 : ((bL cX12_isState).drop 16).take 18 = [27, 104, 28, 96, 51, 42, 180, 0, 50, 28, 46, 160, 0, 66, 42, 180, 0, 111] := by decide +kernel
theorem dX12_isState_16 : decode cX12_isState 16 = .ok (.iload_n 1, 1) := o_27 (u1_0 hc_X12_isState_16 rfl) rfl
theorem dX12_isState_17 : decode cX12_isState 17 = .ok (.imul, 1) := o_104 (u1_1 hc_X12_isState_16 rfl) rfl
theorem dX12_isState_18 : decode cX12_isState 18 = .ok (.iload_n 2, 1) := o_28 (u1_2 hc_X12_isState_16 rfl) rfl
theorem dX12_isState_19 : decode cX12_isState 19 = .ok (.iadd, 1) := o_96 (u1_3 hc_X12_isState_16 rfl) rfl
theorem dX12_isState_20 : decode cX12_isState 20 = .ok (.baload, 1) := o_51 (u1_4 hc_X12_isState_16 rfl) rfl
theorem dX12_isState_21 : decode cX12_isState 21 = .ok (.aload_n 0, 1) := o_42 (u1_5 hc_X12_isState_16 rfl) rfl
theorem dX12_isState_22 : decode cX12_isState 22 = .ok (.getfield 50, 3) := o_180 (u1_6 hc_X12_isState_16 rfl) (u2_d (u1_7 hc_X12_isState_16 rfl) (u1_8 hc_X12_isState_16 rfl) rfl) rfl
theorem dX12_isState_25 : decode cX12_isState 25 = .ok (.iload_n 2, 1) := o_28 (u1_9 hc_X12_isState_16 rfl) rfl
theorem dX12_isState_26 : decode cX12_isState 26 = .ok (.iaload, 1) := o_46 (u1_10 hc_X12_isState_16 rfl) rfl
theorem dX12_isState_27 : decode cX12_isState 27 = .ok (.if_icmp .ne 66, 3) := o_160 (u1_11 hc_X12_isState_16 rfl) (s2_d (u2_d (u1_12 hc_X12_isState_16 rfl) (u1_13 hc_X12_isState_16 rfl) rfl) rfl) rfl
theorem dX12_isState_30 : decode cX12_isState 30 = .ok (.aload_n 0, 1) := o_42 (u1_14 hc_X12_isState_16 rfl) rfl
theorem dX12_isState_31 : decode cX12_isState 31 = .ok (.getfield 111, 3) := o_180 (u1_15 hc_X12_isState_16 rfl) (u2_d (u1_16 hc_X12_isState_16 rfl) (u1_17 hc_X12_isState_16 rfl) rfl) rfl
theorem hc_X12_isState_32 : ((bL cX12_isState).drop 32).take 18 = [0, 111, 16, 30, 27, 104, 28, 96, 51, 42, 180, 0, 53, 28, 46, 160, 0, 46] := by decide +kernel
theorem dX12_isState_34 : decode cX12_isState 34 = .ok (.bipush 30, 2) := o_16 (u1_2 hc_X12_isState_32 rfl) (s1_d (u1_3 hc_X12_isState_32 rfl) rfl) rfl
theorem dX12_isState_36 : decode cX12_isState 36 = .ok (.iload_n 1, 1) := o_27 (u1_4 hc_X12_isState_32 rfl) rfl
theorem dX12_isState_37 : decode cX12_isState 37 = .ok (.imul, 1) := o_104 (u1_5 hc_X12_isState_32 rfl) rfl
theorem dX12_isState_38 : decode cX12_isState 38 = .ok (.iload_n 2, 1) := o_28 (u1_6 hc_X12_isState_32 rfl) rfl
theorem dX12_isState_39 : decode cX12_isState 39 = .ok (.iadd, 1) := o_96 (u1_7 hc_X12_isState_32 rfl) rfl
theorem dX12_isState_40 : decode cX12_isState 40 = .ok (.baload, 1) := o_51 (u1_8 hc_X12_isState_32 rfl) rfl
theorem dX12_isState_41 : decode cX12_isState 41 = .ok (.aload_n 0, 1) := o_42 (u1_9 hc_X12_isState_32 rfl) rfl
theorem dX12_isState_42 : decode cX12_isState 42 = .ok (.getfield 53, 3) := o_180 (u1_10 hc_X12_isState_32 rfl) (u2_d (u1_11 hc_X12_isState_32 rfl) (u1_12 hc_X12_isState_32 rfl) rfl) rfl
theorem dX12_isState_45 : decode cX12_isState 45 = .ok (.iload_n 2, 1) := o_28 (u1_13 hc_X12_isState_32 rfl) rfl
theorem dX12_isState_46 : decode cX12_isState 46 = .ok (.iaload, 1) := o_46 (u1_14 hc_X12_isState_32 rfl) rfl
theorem dX12_isState_47 : decode cX12_isState 47 = .ok (.if_icmp .ne 46, 3) := o_160 (u1_15 hc_X12_isState_32 rfl) (s2_d (u2_d (u1_16 hc_X12_isState_32 rfl) (u1_17 hc_X12_isState_32 rfl) rfl) rfl) rfl
theorem hc_X12_isState_48 : ((bL cX12_isState).drop 48).take 18 = [0, 46, 42, 180, 0, 114, 16, 30, 27, 104, 28, 96, 51, 42, 180, 0, 56, 28] := by decide +kernel
theorem dX12_isState_50 : decode cX12_isState 50 = .ok (.aload_n 0, 1) := o_42 (u1_2 hc_X12_isState_48 rfl) rfl
theorem dX12_isState_51 : decode cX12_isState 51 = .ok (.getfield 114, 3) := o_180 (u1_3 hc_X12_isState_48 rfl) (u2_d (u1_4 hc_X12_isState_48 rfl) (u1_5 hc_X12_isState_48 rfl) rfl) rfl
theorem dX12_isState_54 : decode cX12_isState 54 = .ok (.bipush 30, 2) := o_16 (u1_6 hc_X12_isState_48 rfl) (s1_d (u1_7 hc_X12_isState_48 rfl) rfl) rfl
theorem dX12_isState_56 : decode cX12_isState 56 = .ok (.iload_n 1, 1) := o_27 (u1_8 hc_X12_isState_48 rfl) rfl
theorem dX12_isState_57 : decode cX12_isState 57 = .ok (.imul, 1) := o_104 (u1_9 hc_X12_isState_48 rfl) rfl
theorem dX12_isState_58 : decode cX12_isState 58 = .ok (.iload_n 2, 1) := o_28 (u1_10 hc_X12_isState_48 rfl) rfl
theorem dX12_isState_59 : decode cX12_isState 59 = .ok (.iadd, 1) := o_96 (u1_11 hc_X12_isState_48 rfl) rfl
theorem dX12_isState_60 : decode cX12_isState 60 = .ok (.baload, 1) := o_51 (u1_12 hc_X12_isState_48 rfl) rfl
theorem dX12_isState_61 : decode cX12_isState 61 = .ok (.aload_n 0, 1) := o_42 (u1_13 hc_X12_isState_48 rfl) rfl
theorem dX12_isState_62 : decode cX12_isState 62 = .ok (.getfield 56, 3) := o_180 (u1_14 hc_X12_isState_48 rfl) (u2_d (u1_15 hc_X12_isState_48 rfl) (u1_16 hc_X12_isState_48 rfl) rfl) rfl
theorem hc_X12_isState_64 : ((bL cX12_isState).drop 64).take 18 = [56, 28, 51, 153, 0, 7, 4, 167, 0, 4, 3, 42, 180, 0, 59, 28, 51, 153] := by decide +kernel
theorem dX12_isState_65 : decode cX12_isState 65 = .ok (.iload_n 2, 1) := o_28 (u1_1 hc_X12_isState_64 rfl) rfl
theorem dX12_isState_66 : decode cX12_isState 66 = .ok (.baload, 1) := o_51 (u1_2 hc_X12_isState_64 rfl) rfl
theorem dX12_isState_67 : decode cX12_isState 67 = .ok (.ifCond .eq 7, 3) := o_153 (u1_3 hc_X12_isState_64 rfl) (s2_d (u2_d (u1_4 hc_X12_isState_64 rfl) (u1_5 hc_X12_isState_64 rfl) rfl) rfl) rfl
theorem dX12_isState_70 : decode cX12_isState 70 = .ok (.iconst 1, 1) := o_4 (u1_6 hc_X12_isState_64 rfl) rfl
theorem dX12_isState_71 : decode cX12_isState 71 = .ok (.goto 4, 3) := o_167 (u1_7 hc_X12_isState_64 rfl) (s2_d (u2_d (u1_8 hc_X12_isState_64 rfl) (u1_9 hc_X12_isState_64 rfl) rfl) rfl) rfl
theorem dX12_isState_74 : decode cX12_isState 74 = .ok (.iconst 0, 1) := o_3 (u1_10 hc_X12_isState_64 rfl) rfl
theorem dX12_isState_75 : decode cX12_isState 75 = .ok (.aload_n 0, 1) := o_42 (u1_11 hc_X12_isState_64 rfl) rfl
theorem dX12_isState_76 : decode cX12_isState 76 = .ok (.getfield 59, 3) := o_180 (u1_12 hc_X12_isState_64 rfl) (u2_d (u1_13 hc_X12_isState_64 rfl) (u1_14 hc_X12_isState_64 rfl) rfl) rfl
theorem dX12_isState_79 : decode cX12_isState 79 = .ok (.iload_n 2, 1) := o_28 (u1_15 hc_X12_isState_64 rfl) rfl
theorem hc_X12_isState_80 : ((bL cX12_isState).drop 80).take 18 = [51, 153, 0, 7, 5, 167, 0, 4, 3, 96, 159, 0, 5, 3, 172, 132, 2, 1] := by decide +kernel
theorem dX12_isState_80 : decode cX12_isState 80 = .ok (.baload, 1) := o_51 (u1_0 hc_X12_isState_80 rfl) rfl
theorem dX12_isState_81 : decode cX12_isState 81 = .ok (.ifCond .eq 7, 3) := o_153 (u1_1 hc_X12_isState_80 rfl) (s2_d (u2_d (u1_2 hc_X12_isState_80 rfl) (u1_3 hc_X12_isState_80 rfl) rfl) rfl) rfl
theorem dX12_isState_84 : decode cX12_isState 84 = .ok (.iconst 2, 1) := o_5 (u1_4 hc_X12_isState_80 rfl) rfl
theorem dX12_isState_85 : decode cX12_isState 85 = .ok (.goto 4, 3) := o_167 (u1_5 hc_X12_isState_80 rfl) (s2_d (u2_d (u1_6 hc_X12_isState_80 rfl) (u1_7 hc_X12_isState_80 rfl) rfl) rfl) rfl
theorem dX12_isState_88 : decode cX12_isState 88 = .ok (.iconst 0, 1) := o_3 (u1_8 hc_X12_isState_80 rfl) rfl
theorem dX12_isState_89 : decode cX12_isState 89 = .ok (.iadd, 1) := o_96 (u1_9 hc_X12_isState_80 rfl) rfl
theorem dX12_isState_90 : decode cX12_isState 90 = .ok (.if_icmp .eq 5, 3) := o_159 (u1_10 hc_X12_isState_80 rfl) (s2_d (u2_d (u1_11 hc_X12_isState_80 rfl) (u1_12 hc_X12_isState_80 rfl) rfl) rfl) rfl
theorem dX12_isState_93 : decode cX12_isState 93 = .ok (.iconst 0, 1) := o_3 (u1_13 hc_X12_isState_80 rfl) rfl
theorem dX12_isState_94 : decode cX12_isState 94 = .ok (.ireturn, 1) := o_172 (u1_14 hc_X12_isState_80 rfl) rfl
theorem dX12_isState_95 : decode cX12_isState 95 = .ok (.iinc 2 1, 3) := o_132 (u1_15 hc_X12_isState_80 rfl) (u1_16 hc_X12_isState_80 rfl) (s1_d (u1_17 hc_X12_isState_80 rfl) rfl) rfl
theorem hc_X12_isState_96 : ((bL cX12_isState).drop 96).take 18 = [2, 1, 167, 255, 160, 4, 172] := by decide +kernel
theorem dX12_isState_98 : decode cX12_isState 98 = .ok (.goto (-96), 3) := o_167 (u1_2 hc_X12_isState_96 rfl) (s2_d (u2_d (u1_3 hc_X12_isState_96 rfl) (u1_4 hc_X12_isState_96 rfl) rfl) rfl) rfl
theorem dX12_isState_101 : decode cX12_isState 101 = .ok (.iconst 1, 1) := o_4 (u1_5 hc_X12_isState_96 rfl) rfl
theorem dX12_isState_102 : decode cX12_isState 102 = .ok (.ireturn, 1) := o_172 (u1_6 hc_X12_isState_96 rfl) rfl
theorem hc_X12_tried_0 : ((bL cX12_tried).drop 0).take 18 = [42, 28, 29, 21, 4, 182, 1, 142, 158, 0, 5, 3, 172, 42, 28, 29, 21, 4] := by decide +kernel
theorem dX12_tried_0 : decode cX12_tried 0 = .ok (.aload_n 0, 1) := o_42 (u1_0 hc_X12_tried_0 rfl) rfl
theorem dX12_tried_1 : decode cX12_tried 1 = .ok (.iload_n 2, 1) := o_28 (u1_1 hc_X12_tried_0 rfl) rfl
theorem dX12_tried_2 : decode cX12_tried 2 = .ok (.iload_n 3, 1) := o_29 (u1_2 hc_X12_tried_0 rfl) rfl
theorem dX12_tried_3 : decode cX12_tried 3 = .ok (.iload 4, 2) := o_21 (u1_3 hc_X12_tried_0 rfl) (u1_4 hc_X12_tried_0 rfl) rfl
theorem dX12_tried_5 : decode cX12_tried 5 = .ok (.invokevirtual 398, 3) := o_182 (u1_5 hc_X12_tried_0 rfl) (u2_d (u1_6 hc_X12_tried_0 rfl) (u1_7 hc_X12_tried_0 rfl) rfl) rfl
theorem dX12_tried_8 : decode cX12_tried 8 = .ok (.ifCond .le 5, 3) := o_158 (u1_8 hc_X12_tried_0 rfl) (s2_d (u2_d (u1_9 hc_X12_tried_0 rfl) (u1_10 hc_X12_tried_0 rfl) rfl) rfl) rfl
theorem dX12_tried_11 : decode cX12_tried 11 = .ok (.iconst 0, 1) := o_3 (u1_11 hc_X12_tried_0 rfl) rfl
theorem dX12_tried_12 : decode cX12_tried 12 = .ok (.ireturn, 1) := o_172 (u1_12 hc_X12_tried_0 rfl) rfl
theorem dX12_tried_13 : decode cX12_tried 13 = .ok (.aload_n 0, 1) := o_42 (u1_13 hc_X12_tried_0 rfl) rfl
theorem dX12_tried_14 : decode cX12_tried 14 = .ok (.iload_n 2, 1) := o_28 (u1_14 hc_X12_tried_0 rfl) rfl
theorem dX12_tried_15 : decode cX12_tried 15 = .ok (.iload_n 3, 1) := o_29 (u1_15 hc_X12_tried_0 rfl) rfl
theorem hc_X12_tried_16 : ((bL cX12_tried).drop 16).take 18 = [21, 4, 182, 1, 145, 4, 54, 5, 3, 54, 6, 21, 6, 42, 180, 1, 154, 162] := by decide +kernel
theorem dX12_tried_16 : decode cX12_tried 16 = .ok (.iload 4, 2) := o_21 (u1_0 hc_X12_tried_16 rfl) (u1_1 hc_X12_tried_16 rfl) rfl
theorem dX12_tried_18 : decode cX12_tried 18 = .ok (.invokevirtual 401, 3) := o_182 (u1_2 hc_X12_tried_16 rfl) (u2_d (u1_3 hc_X12_tried_16 rfl) (u1_4 hc_X12_tried_16 rfl) rfl) rfl
theorem dX12_tried_21 : decode cX12_tried 21 = .ok (.iconst 1, 1) := o_4 (u1_5 hc_X12_tried_16 rfl) rfl
theorem dX12_tried_22 : decode cX12_tried 22 = .ok (.istore 5, 2) := o_54 (u1_6 hc_X12_tried_16 rfl) (u1_7 hc_X12_tried_16 rfl) rfl
theorem dX12_tried_24 : decode cX12_tried 24 = .ok (.iconst 0, 1) := o_3 (u1_8 hc_X12_tried_16 rfl) rfl
theorem dX12_tried_25 : decode cX12_tried 25 = .ok (.istore 6, 2) := o_54 (u1_9 hc_X12_tried_16 rfl) (u1_10 hc_X12_tried_16 rfl) rfl
theorem dX12_tried_27 : decode cX12_tried 27 = .ok (.iload 6, 2) := o_21 (u1_11 hc_X12_tried_16 rfl) (u1_12 hc_X12_tried_16 rfl) rfl
theorem dX12_tried_29 : decode cX12_tried 29 = .ok (.aload_n 0, 1) := o_42 (u1_13 hc_X12_tried_16 rfl) rfl
theorem dX12_tried_30 : decode cX12_tried 30 = .ok (.getfield 410, 3) := o_180 (u1_14 hc_X12_tried_16 rfl) (u2_d (u1_15 hc_X12_tried_16 rfl) (u1_16 hc_X12_tried_16 rfl) rfl) rfl
theorem hc_X12_tried_32 : ((bL cX12_tried).drop 32).take 18 = [154, 162, 0, 30, 21, 5, 153, 0, 25, 42, 21, 6, 182, 1, 157, 154, 0, 7] := by decide +kernel
theorem dX12_tried_33 : decode cX12_tried 33 = .ok (.if_icmp .ge 30, 3) := o_162 (u1_1 hc_X12_tried_32 rfl) (s2_d (u2_d (u1_2 hc_X12_tried_32 rfl) (u1_3 hc_X12_tried_32 rfl) rfl) rfl) rfl
theorem dX12_tried_36 : decode cX12_tried 36 = .ok (.iload 5, 2) := o_21 (u1_4 hc_X12_tried_32 rfl) (u1_5 hc_X12_tried_32 rfl) rfl
theorem dX12_tried_38 : decode cX12_tried 38 = .ok (.ifCond .eq 25, 3) := o_153 (u1_6 hc_X12_tried_32 rfl) (s2_d (u2_d (u1_7 hc_X12_tried_32 rfl) (u1_8 hc_X12_tried_32 rfl) rfl) rfl) rfl
theorem dX12_tried_41 : decode cX12_tried 41 = .ok (.aload_n 0, 1) := o_42 (u1_9 hc_X12_tried_32 rfl) rfl
theorem dX12_tried_42 : decode cX12_tried 42 = .ok (.iload 6, 2) := o_21 (u1_10 hc_X12_tried_32 rfl) (u1_11 hc_X12_tried_32 rfl) rfl
theorem dX12_tried_44 : decode cX12_tried 44 = .ok (.invokevirtual 413, 3) := o_182 (u1_12 hc_X12_tried_32 rfl) (u2_d (u1_13 hc_X12_tried_32 rfl) (u1_14 hc_X12_tried_32 rfl) rfl) rfl
theorem dX12_tried_47 : decode cX12_tried 47 = .ok (.ifCond .ne 7, 3) := o_154 (u1_15 hc_X12_tried_32 rfl) (s2_d (u2_d (u1_16 hc_X12_tried_32 rfl) (u1_17 hc_X12_tried_32 rfl) rfl) rfl) rfl
theorem hc_X12_tried_48 : ((bL cX12_tried).drop 48).take 18 = [0, 7, 4, 167, 0, 4, 3, 54, 5, 132, 6, 1, 167, 255, 223, 3, 54, 6] := by decide +kernel
theorem dX12_tried_50 : decode cX12_tried 50 = .ok (.iconst 1, 1) := o_4 (u1_2 hc_X12_tried_48 rfl) rfl
theorem dX12_tried_51 : decode cX12_tried 51 = .ok (.goto 4, 3) := o_167 (u1_3 hc_X12_tried_48 rfl) (s2_d (u2_d (u1_4 hc_X12_tried_48 rfl) (u1_5 hc_X12_tried_48 rfl) rfl) rfl) rfl
theorem dX12_tried_54 : decode cX12_tried 54 = .ok (.iconst 0, 1) := o_3 (u1_6 hc_X12_tried_48 rfl) rfl
theorem dX12_tried_55 : decode cX12_tried 55 = .ok (.istore 5, 2) := o_54 (u1_7 hc_X12_tried_48 rfl) (u1_8 hc_X12_tried_48 rfl) rfl
theorem dX12_tried_57 : decode cX12_tried 57 = .ok (.iinc 6 1, 3) := o_132 (u1_9 hc_X12_tried_48 rfl) (u1_10 hc_X12_tried_48 rfl) (s1_d (u1_11 hc_X12_tried_48 rfl) rfl) rfl
theorem dX12_tried_60 : decode cX12_tried 60 = .ok (.goto (-33), 3) := o_167 (u1_12 hc_X12_tried_48 rfl) (s2_d (u2_d (u1_13 hc_X12_tried_48 rfl) (u1_14 hc_X12_tried_48 rfl) rfl) rfl) rfl
theorem dX12_tried_63 : decode cX12_tried 63 = .ok (.iconst 0, 1) := o_3 (u1_15 hc_X12_tried_48 rfl) rfl
theorem hc_X12_tried_64 : ((bL cX12_tried).drop 64).take 18 = [54, 6, 21, 5, 153, 0, 130, 42, 42, 180, 1, 154, 182, 1, 160, 42, 180, 0] := by decide +kernel
theorem dX12_tried_64 : decode cX12_tried 64 = .ok (.istore 6, 2) := o_54 (u1_0 hc_X12_tried_64 rfl) (u1_1 hc_X12_tried_64 rfl) rfl
theorem dX12_tried_66 : decode cX12_tried 66 = .ok (.iload 5, 2) := o_21 (u1_2 hc_X12_tried_64 rfl) (u1_3 hc_X12_tried_64 rfl) rfl
theorem dX12_tried_68 : decode cX12_tried 68 = .ok (.ifCond .eq 130, 3) := o_153 (u1_4 hc_X12_tried_64 rfl) (s2_d (u2_d (u1_5 hc_X12_tried_64 rfl) (u1_6 hc_X12_tried_64 rfl) rfl) rfl) rfl
theorem dX12_tried_71 : decode cX12_tried 71 = .ok (.aload_n 0, 1) := o_42 (u1_7 hc_X12_tried_64 rfl) rfl
theorem dX12_tried_72 : decode cX12_tried 72 = .ok (.aload_n 0, 1) := o_42 (u1_8 hc_X12_tried_64 rfl) rfl
theorem dX12_tried_73 : decode cX12_tried 73 = .ok (.getfield 410, 3) := o_180 (u1_9 hc_X12_tried_64 rfl) (u2_d (u1_10 hc_X12_tried_64 rfl) (u1_11 hc_X12_tried_64 rfl) rfl) rfl
theorem dX12_tried_76 : decode cX12_tried 76 = .ok (.invokevirtual 416, 3) := o_182 (u1_12 hc_X12_tried_64 rfl) (u2_d (u1_13 hc_X12_tried_64 rfl) (u1_14 hc_X12_tried_64 rfl) rfl) rfl
theorem dX12_tried_79 : decode cX12_tried 79 = .ok (.aload_n 0, 1) := o_42 (u1_15 hc_X12_tried_64 rfl) rfl
theorem hc_X12_tried_80 : ((bL cX12_tried).drop 80).take 18 = [180, 0, 117, 42, 180, 1, 154, 27, 79, 42, 180, 0, 120, 6, 42, 180, 1, 154] := by decide +kernel
theorem dX12_tried_80 : decode cX12_tried 80 = .ok (.getfield 117, 3) := o_180 (u1_0 hc_X12_tried_80 rfl) (u2_d (u1_1 hc_X12_tried_80 rfl) (u1_2 hc_X12_tried_80 rfl) rfl) rfl
theorem dX12_tried_83 : decode cX12_tried 83 = .ok (.aload_n 0, 1) := o_42 (u1_3 hc_X12_tried_80 rfl) rfl
theorem dX12_tried_84 : decode cX12_tried 84 = .ok (.getfield 410, 3) := o_180 (u1_4 hc_X12_tried_80 rfl) (u2_d (u1_5 hc_X12_tried_80 rfl) (u1_6 hc_X12_tried_80 rfl) rfl) rfl
theorem dX12_tried_87 : decode cX12_tried 87 = .ok (.iload_n 1, 1) := o_27 (u1_7 hc_X12_tried_80 rfl) rfl
theorem dX12_tried_88 : decode cX12_tried 88 = .ok (.iastore, 1) := o_79 (u1_8 hc_X12_tried_80 rfl) rfl
theorem dX12_tried_89 : decode cX12_tried 89 = .ok (.aload_n 0, 1) := o_42 (u1_9 hc_X12_tried_80 rfl) rfl
theorem dX12_tried_90 : decode cX12_tried 90 = .ok (.getfield 120, 3) := o_180 (u1_10 hc_X12_tried_80 rfl) (u2_d (u1_11 hc_X12_tried_80 rfl) (u1_12 hc_X12_tried_80 rfl) rfl) rfl
theorem dX12_tried_93 : decode cX12_tried 93 = .ok (.iconst 3, 1) := o_6 (u1_13 hc_X12_tried_80 rfl) rfl
theorem dX12_tried_94 : decode cX12_tried 94 = .ok (.aload_n 0, 1) := o_42 (u1_14 hc_X12_tried_80 rfl) rfl
theorem dX12_tried_95 : decode cX12_tried 95 = .ok (.getfield 410, 3) := o_180 (u1_15 hc_X12_tried_80 rfl) (u2_d (u1_16 hc_X12_tried_80 rfl) (u1_17 hc_X12_tried_80 rfl) rfl) rfl
theorem hc_X12_tried_96 : ((bL cX12_tried).drop 96).take 18 = [1, 154, 104, 28, 79, 42, 180, 0, 120, 6, 42, 180, 1, 154, 104, 4, 96, 28] := by decide +kernel
theorem dX12_tried_98 : decode cX12_tried 98 = .ok (.imul, 1) := o_104 (u1_2 hc_X12_tried_96 rfl) rfl
theorem dX12_tried_99 : decode cX12_tried 99 = .ok (.iload_n 2, 1) := o_28 (u1_3 hc_X12_tried_96 rfl) rfl
theorem dX12_tried_100 : decode cX12_tried 100 = .ok (.iastore, 1) := o_79 (u1_4 hc_X12_tried_96 rfl) rfl
theorem dX12_tried_101 : decode cX12_tried 101 = .ok (.aload_n 0, 1) := o_42 (u1_5 hc_X12_tried_96 rfl) rfl
theorem dX12_tried_102 : decode cX12_tried 102 = .ok (.getfield 120, 3) := o_180 (u1_6 hc_X12_tried_96 rfl) (u2_d (u1_7 hc_X12_tried_96 rfl) (u1_8 hc_X12_tried_96 rfl) rfl) rfl
theorem dX12_tried_105 : decode cX12_tried 105 = .ok (.iconst 3, 1) := o_6 (u1_9 hc_X12_tried_96 rfl) rfl
theorem dX12_tried_106 : decode cX12_tried 106 = .ok (.aload_n 0, 1) := o_42 (u1_10 hc_X12_tried_96 rfl) rfl
theorem dX12_tried_107 : decode cX12_tried 107 = .ok (.getfield 410, 3) := o_180 (u1_11 hc_X12_tried_96 rfl) (u2_d (u1_12 hc_X12_tried_96 rfl) (u1_13 hc_X12_tried_96 rfl) rfl) rfl
theorem dX12_tried_110 : decode cX12_tried 110 = .ok (.imul, 1) := o_104 (u1_14 hc_X12_tried_96 rfl) rfl
theorem dX12_tried_111 : decode cX12_tried 111 = .ok (.iconst 1, 1) := o_4 (u1_15 hc_X12_tried_96 rfl) rfl
theorem hc_X12_tried_112 : ((bL cX12_tried).drop 112).take 18 = [96, 28, 16, 11, 162, 0, 7, 29, 167, 0, 4, 3, 79, 42, 180, 0, 120, 6] := by decide +kernel
theorem dX12_tried_112 : decode cX12_tried 112 = .ok (.iadd, 1) := o_96 (u1_0 hc_X12_tried_112 rfl) rfl
theorem dX12_tried_113 : decode cX12_tried 113 = .ok (.iload_n 2, 1) := o_28 (u1_1 hc_X12_tried_112 rfl) rfl
theorem dX12_tried_114 : decode cX12_tried 114 = .ok (.bipush 11, 2) := o_16 (u1_2 hc_X12_tried_112 rfl) (s1_d (u1_3 hc_X12_tried_112 rfl) rfl) rfl
theorem dX12_tried_116 : decode cX12_tried 116 = .ok (.if_icmp .ge 7, 3) := o_162 (u1_4 hc_X12_tried_112 rfl) (s2_d (u2_d (u1_5 hc_X12_tried_112 rfl) (u1_6 hc_X12_tried_112 rfl) rfl) rfl) rfl
theorem dX12_tried_119 : decode cX12_tried 119 = .ok (.iload_n 3, 1) := o_29 (u1_7 hc_X12_tried_112 rfl) rfl
theorem dX12_tried_120 : decode cX12_tried 120 = .ok (.goto 4, 3) := o_167 (u1_8 hc_X12_tried_112 rfl) (s2_d (u2_d (u1_9 hc_X12_tried_112 rfl) (u1_10 hc_X12_tried_112 rfl) rfl) rfl) rfl
theorem dX12_tried_123 : decode cX12_tried 123 = .ok (.iconst 0, 1) := o_3 (u1_11 hc_X12_tried_112 rfl) rfl
theorem dX12_tried_124 : decode cX12_tried 124 = .ok (.iastore, 1) := o_79 (u1_12 hc_X12_tried_112 rfl) rfl
theorem dX12_tried_125 : decode cX12_tried 125 = .ok (.aload_n 0, 1) := o_42 (u1_13 hc_X12_tried_112 rfl) rfl
theorem dX12_tried_126 : decode cX12_tried 126 = .ok (.getfield 120, 3) := o_180 (u1_14 hc_X12_tried_112 rfl) (u2_d (u1_15 hc_X12_tried_112 rfl) (u1_16 hc_X12_tried_112 rfl) rfl) rfl
theorem hc_X12_tried_128 : ((bL cX12_tried).drop 128).take 18 = [120, 6, 42, 180, 1, 154, 104, 5, 96, 28, 184, 1, 133, 153, 0, 8, 21, 4] := by decide +kernel
theorem dX12_tried_129 : decode cX12_tried 129 = .ok (.iconst 3, 1) := o_6 (u1_1 hc_X12_tried_128 rfl) rfl
theorem dX12_tried_130 : decode cX12_tried 130 = .ok (.aload_n 0, 1) := o_42 (u1_2 hc_X12_tried_128 rfl) rfl
theorem dX12_tried_131 : decode cX12_tried 131 = .ok (.getfield 410, 3) := o_180 (u1_3 hc_X12_tried_128 rfl) (u2_d (u1_4 hc_X12_tried_128 rfl) (u1_5 hc_X12_tried_128 rfl) rfl) rfl
theorem dX12_tried_134 : decode cX12_tried 134 = .ok (.imul, 1) := o_104 (u1_6 hc_X12_tried_128 rfl) rfl
theorem dX12_tried_135 : decode cX12_tried 135 = .ok (.iconst 2, 1) := o_5 (u1_7 hc_X12_tried_128 rfl) rfl
theorem dX12_tried_136 : decode cX12_tried 136 = .ok (.iadd, 1) := o_96 (u1_8 hc_X12_tried_128 rfl) rfl
theorem dX12_tried_137 : decode cX12_tried 137 = .ok (.iload_n 2, 1) := o_28 (u1_9 hc_X12_tried_128 rfl) rfl
theorem dX12_tried_138 : decode cX12_tried 138 = .ok (.invokestatic 389, 3) := o_184 (u1_10 hc_X12_tried_128 rfl) (u2_d (u1_11 hc_X12_tried_128 rfl) (u1_12 hc_X12_tried_128 rfl) rfl) rfl
theorem dX12_tried_141 : decode cX12_tried 141 = .ok (.ifCond .eq 8, 3) := o_153 (u1_13 hc_X12_tried_128 rfl) (s2_d (u2_d (u1_14 hc_X12_tried_128 rfl) (u1_15 hc_X12_tried_128 rfl) rfl) rfl) rfl
theorem hc_X12_tried_144 : ((bL cX12_tried).drop 144).take 18 = [21, 4, 167, 0, 4, 3, 79, 42, 89, 180, 1, 154, 4, 96, 181, 1, 154, 42] := by decide +kernel
theorem dX12_tried_144 : decode cX12_tried 144 = .ok (.iload 4, 2) := o_21 (u1_0 hc_X12_tried_144 rfl) (u1_1 hc_X12_tried_144 rfl) rfl
theorem dX12_tried_146 : decode cX12_tried 146 = .ok (.goto 4, 3) := o_167 (u1_2 hc_X12_tried_144 rfl) (s2_d (u2_d (u1_3 hc_X12_tried_144 rfl) (u1_4 hc_X12_tried_144 rfl) rfl) rfl) rfl
theorem dX12_tried_149 : decode cX12_tried 149 = .ok (.iconst 0, 1) := o_3 (u1_5 hc_X12_tried_144 rfl) rfl
theorem dX12_tried_150 : decode cX12_tried 150 = .ok (.iastore, 1) := o_79 (u1_6 hc_X12_tried_144 rfl) rfl
theorem dX12_tried_151 : decode cX12_tried 151 = .ok (.aload_n 0, 1) := o_42 (u1_7 hc_X12_tried_144 rfl) rfl
theorem dX12_tried_152 : decode cX12_tried 152 = .ok (.dup, 1) := o_89 (u1_8 hc_X12_tried_144 rfl) rfl
theorem dX12_tried_153 : decode cX12_tried 153 = .ok (.getfield 410, 3) := o_180 (u1_9 hc_X12_tried_144 rfl) (u2_d (u1_10 hc_X12_tried_144 rfl) (u1_11 hc_X12_tried_144 rfl) rfl) rfl
theorem dX12_tried_156 : decode cX12_tried 156 = .ok (.iconst 1, 1) := o_4 (u1_12 hc_X12_tried_144 rfl) rfl
theorem dX12_tried_157 : decode cX12_tried 157 = .ok (.iadd, 1) := o_96 (u1_13 hc_X12_tried_144 rfl) rfl
theorem dX12_tried_158 : decode cX12_tried 158 = .ok (.putfield 410, 3) := o_181 (u1_14 hc_X12_tried_144 rfl) (u2_d (u1_15 hc_X12_tried_144 rfl) (u1_16 hc_X12_tried_144 rfl) rfl) rfl
theorem hc_X12_tried_160 : ((bL cX12_tried).drop 160).take 18 = [154, 42, 180, 0, 50, 42, 180, 1, 163, 46, 16, 247, 159, 0, 23, 42, 180, 0] := by decide +kernel
theorem dX12_tried_161 : decode cX12_tried 161 = .ok (.aload_n 0, 1) := o_42 (u1_1 hc_X12_tried_160 rfl) rfl
theorem dX12_tried_162 : decode cX12_tried 162 = .ok (.getfield 50, 3) := o_180 (u1_2 hc_X12_tried_160 rfl) (u2_d (u1_3 hc_X12_tried_160 rfl) (u1_4 hc_X12_tried_160 rfl) rfl) rfl
theorem dX12_tried_165 : decode cX12_tried 165 = .ok (.aload_n 0, 1) := o_42 (u1_5 hc_X12_tried_160 rfl) rfl
theorem dX12_tried_166 : decode cX12_tried 166 = .ok (.getfield 419, 3) := o_180 (u1_6 hc_X12_tried_160 rfl) (u2_d (u1_7 hc_X12_tried_160 rfl) (u1_8 hc_X12_tried_160 rfl) rfl) rfl
theorem dX12_tried_169 : decode cX12_tried 169 = .ok (.iaload, 1) := o_46 (u1_9 hc_X12_tried_160 rfl) rfl
theorem dX12_tried_170 : decode cX12_tried 170 = .ok (.bipush (-9), 2) := o_16 (u1_10 hc_X12_tried_160 rfl) (s1_d (u1_11 hc_X12_tried_160 rfl) rfl) rfl
theorem dX12_tried_172 : decode cX12_tried 172 = .ok (.if_icmp .eq 23, 3) := o_159 (u1_12 hc_X12_tried_160 rfl) (s2_d (u2_d (u1_13 hc_X12_tried_160 rfl) (u1_14 hc_X12_tried_160 rfl) rfl) rfl) rfl
theorem dX12_tried_175 : decode cX12_tried 175 = .ok (.aload_n 0, 1) := o_42 (u1_15 hc_X12_tried_160 rfl) rfl
theorem hc_X12_tried_176 : ((bL cX12_tried).drop 176).take 18 = [180, 0, 53, 42, 180, 1, 163, 46, 42, 180, 1, 166, 160, 0, 7, 4, 167, 0] := by decide +kernel
theorem dX12_tried_176 : decode cX12_tried 176 = .ok (.getfield 53, 3) := o_180 (u1_0 hc_X12_tried_176 rfl) (u2_d (u1_1 hc_X12_tried_176 rfl) (u1_2 hc_X12_tried_176 rfl) rfl) rfl
theorem dX12_tried_179 : decode cX12_tried 179 = .ok (.aload_n 0, 1) := o_42 (u1_3 hc_X12_tried_176 rfl) rfl
theorem dX12_tried_180 : decode cX12_tried 180 = .ok (.getfield 419, 3) := o_180 (u1_4 hc_X12_tried_176 rfl) (u2_d (u1_5 hc_X12_tried_176 rfl) (u1_6 hc_X12_tried_176 rfl) rfl) rfl
theorem dX12_tried_183 : decode cX12_tried 183 = .ok (.iaload, 1) := o_46 (u1_7 hc_X12_tried_176 rfl) rfl
theorem dX12_tried_184 : decode cX12_tried 184 = .ok (.aload_n 0, 1) := o_42 (u1_8 hc_X12_tried_176 rfl) rfl
theorem dX12_tried_185 : decode cX12_tried 185 = .ok (.getfield 422, 3) := o_180 (u1_9 hc_X12_tried_176 rfl) (u2_d (u1_10 hc_X12_tried_176 rfl) (u1_11 hc_X12_tried_176 rfl) rfl) rfl
theorem dX12_tried_188 : decode cX12_tried 188 = .ok (.if_icmp .ne 7, 3) := o_160 (u1_12 hc_X12_tried_176 rfl) (s2_d (u2_d (u1_13 hc_X12_tried_176 rfl) (u1_14 hc_X12_tried_176 rfl) rfl) rfl) rfl
theorem dX12_tried_191 : decode cX12_tried 191 = .ok (.iconst 1, 1) := o_4 (u1_15 hc_X12_tried_176 rfl) rfl
theorem hc_X12_tried_192 : ((bL cX12_tried).drop 192).take 18 = [167, 0, 4, 3, 54, 6, 42, 27, 182, 1, 169, 21, 6, 172] := by decide +kernel
theorem dX12_tried_192 : decode cX12_tried 192 = .ok (.goto 4, 3) := o_167 (u1_0 hc_X12_tried_192 rfl) (s2_d (u2_d (u1_1 hc_X12_tried_192 rfl) (u1_2 hc_X12_tried_192 rfl) rfl) rfl) rfl
theorem dX12_tried_195 : decode cX12_tried 195 = .ok (.iconst 0, 1) := o_3 (u1_3 hc_X12_tried_192 rfl) rfl
theorem dX12_tried_196 : decode cX12_tried 196 = .ok (.istore 6, 2) := o_54 (u1_4 hc_X12_tried_192 rfl) (u1_5 hc_X12_tried_192 rfl) rfl
theorem dX12_tried_198 : decode cX12_tried 198 = .ok (.aload_n 0, 1) := o_42 (u1_6 hc_X12_tried_192 rfl) rfl
theorem dX12_tried_199 : decode cX12_tried 199 = .ok (.iload_n 1, 1) := o_27 (u1_7 hc_X12_tried_192 rfl) rfl
theorem dX12_tried_200 : decode cX12_tried 200 = .ok (.invokevirtual 425, 3) := o_182 (u1_8 hc_X12_tried_192 rfl) (u2_d (u1_9 hc_X12_tried_192 rfl) (u1_10 hc_X12_tried_192 rfl) rfl) rfl
theorem dX12_tried_203 : decode cX12_tried 203 = .ok (.iload 6, 2) := o_21 (u1_11 hc_X12_tried_192 rfl) (u1_12 hc_X12_tried_192 rfl) rfl
theorem dX12_tried_205 : decode cX12_tried 205 = .ok (.ireturn, 1) := o_172 (u1_13 hc_X12_tried_192 rfl) rfl
theorem hc_X12_triedAll_0 : ((bL cX12_triedAll).drop 0).take 18 = [42, 27, 182, 1, 169, 42, 182, 1, 139, 3, 61, 28, 16, 12, 162, 0, 106, 28] := by decide +kernel
theorem dX12_triedAll_0 : decode cX12_triedAll 0 = .ok (.aload_n 0, 1) := o_42 (u1_0 hc_X12_triedAll_0 rfl) rfl
theorem dX12_triedAll_1 : decode cX12_triedAll 1 = .ok (.iload_n 1, 1) := o_27 (u1_1 hc_X12_triedAll_0 rfl) rfl
theorem dX12_triedAll_2 : decode cX12_triedAll 2 = .ok (.invokevirtual 425, 3) := o_182 (u1_2 hc_X12_triedAll_0 rfl) (u2_d (u1_3 hc_X12_triedAll_0 rfl) (u1_4 hc_X12_triedAll_0 rfl) rfl) rfl
theorem dX12_triedAll_5 : decode cX12_triedAll 5 = .ok (.aload_n 0, 1) := o_42 (u1_5 hc_X12_triedAll_0 rfl) rfl
theorem dX12_triedAll_6 : decode cX12_triedAll 6 = .ok (.invokevirtual 395, 3) := o_182 (u1_6 hc_X12_triedAll_0 rfl) (u2_d (u1_7 hc_X12_triedAll_0 rfl) (u1_8 hc_X12_triedAll_0 rfl) rfl) rfl
theorem dX12_triedAll_9 : decode cX12_triedAll 9 = .ok (.iconst 0, 1) := o_3 (u1_9 hc_X12_triedAll_0 rfl) rfl
theorem dX12_triedAll_10 : decode cX12_triedAll 10 = .ok (.istore_n 2, 1) := o_61 (u1_10 hc_X12_triedAll_0 rfl) rfl
theorem dX12_triedAll_11 : decode cX12_triedAll 11 = .ok (.iload_n 2, 1) := o_28 (u1_11 hc_X12_triedAll_0 rfl) rfl
theorem dX12_triedAll_12 : decode cX12_triedAll 12 = .ok (.bipush 12, 2) := o_16 (u1_12 hc_X12_triedAll_0 rfl) (s1_d (u1_13 hc_X12_triedAll_0 rfl) rfl) rfl
theorem dX12_triedAll_14 : decode cX12_triedAll 14 = .ok (.if_icmp .ge 106, 3) := o_162 (u1_14 hc_X12_triedAll_0 rfl) (s2_d (u2_d (u1_15 hc_X12_triedAll_0 rfl) (u1_16 hc_X12_triedAll_0 rfl) rfl) rfl) rfl
theorem hc_X12_triedAll_16 : ((bL cX12_triedAll).drop 16).take 18 = [106, 28, 154, 0, 8, 16, 10, 167, 0, 17, 28, 16, 11, 160, 0, 7, 4, 167] := by decide +kernel
theorem dX12_triedAll_17 : decode cX12_triedAll 17 = .ok (.iload_n 2, 1) := o_28 (u1_1 hc_X12_triedAll_16 rfl) rfl
theorem dX12_triedAll_18 : decode cX12_triedAll 18 = .ok (.ifCond .ne 8, 3) := o_154 (u1_2 hc_X12_triedAll_16 rfl) (s2_d (u2_d (u1_3 hc_X12_triedAll_16 rfl) (u1_4 hc_X12_triedAll_16 rfl) rfl) rfl) rfl
theorem dX12_triedAll_21 : decode cX12_triedAll 21 = .ok (.bipush 10, 2) := o_16 (u1_5 hc_X12_triedAll_16 rfl) (s1_d (u1_6 hc_X12_triedAll_16 rfl) rfl) rfl
theorem dX12_triedAll_23 : decode cX12_triedAll 23 = .ok (.goto 17, 3) := o_167 (u1_7 hc_X12_triedAll_16 rfl) (s2_d (u2_d (u1_8 hc_X12_triedAll_16 rfl) (u1_9 hc_X12_triedAll_16 rfl) rfl) rfl) rfl
theorem dX12_triedAll_26 : decode cX12_triedAll 26 = .ok (.iload_n 2, 1) := o_28 (u1_10 hc_X12_triedAll_16 rfl) rfl
theorem dX12_triedAll_27 : decode cX12_triedAll 27 = .ok (.bipush 11, 2) := o_16 (u1_11 hc_X12_triedAll_16 rfl) (s1_d (u1_12 hc_X12_triedAll_16 rfl) rfl) rfl
theorem dX12_triedAll_29 : decode cX12_triedAll 29 = .ok (.if_icmp .ne 7, 3) := o_160 (u1_13 hc_X12_triedAll_16 rfl) (s2_d (u2_d (u1_14 hc_X12_triedAll_16 rfl) (u1_15 hc_X12_triedAll_16 rfl) rfl) rfl) rfl
theorem hc_X12_triedAll_32 : ((bL cX12_triedAll).drop 32).take 18 = [4, 167, 0, 7, 42, 180, 0, 177, 62, 3, 54, 4, 21, 4, 29, 162, 0, 67] := by decide +kernel
theorem dX12_triedAll_32 : decode cX12_triedAll 32 = .ok (.iconst 1, 1) := o_4 (u1_0 hc_X12_triedAll_32 rfl) rfl
theorem dX12_triedAll_33 : decode cX12_triedAll 33 = .ok (.goto 7, 3) := o_167 (u1_1 hc_X12_triedAll_32 rfl) (s2_d (u2_d (u1_2 hc_X12_triedAll_32 rfl) (u1_3 hc_X12_triedAll_32 rfl) rfl) rfl) rfl
theorem dX12_triedAll_36 : decode cX12_triedAll 36 = .ok (.aload_n 0, 1) := o_42 (u1_4 hc_X12_triedAll_32 rfl) rfl
theorem dX12_triedAll_37 : decode cX12_triedAll 37 = .ok (.getfield 177, 3) := o_180 (u1_5 hc_X12_triedAll_32 rfl) (u2_d (u1_6 hc_X12_triedAll_32 rfl) (u1_7 hc_X12_triedAll_32 rfl) rfl) rfl
theorem dX12_triedAll_40 : decode cX12_triedAll 40 = .ok (.istore_n 3, 1) := o_62 (u1_8 hc_X12_triedAll_32 rfl) rfl
theorem dX12_triedAll_41 : decode cX12_triedAll 41 = .ok (.iconst 0, 1) := o_3 (u1_9 hc_X12_triedAll_32 rfl) rfl
theorem dX12_triedAll_42 : decode cX12_triedAll 42 = .ok (.istore 4, 2) := o_54 (u1_10 hc_X12_triedAll_32 rfl) (u1_11 hc_X12_triedAll_32 rfl) rfl
theorem dX12_triedAll_44 : decode cX12_triedAll 44 = .ok (.iload 4, 2) := o_21 (u1_12 hc_X12_triedAll_32 rfl) (u1_13 hc_X12_triedAll_32 rfl) rfl
theorem dX12_triedAll_46 : decode cX12_triedAll 46 = .ok (.iload_n 3, 1) := o_29 (u1_14 hc_X12_triedAll_32 rfl) rfl
theorem dX12_triedAll_47 : decode cX12_triedAll 47 = .ok (.if_icmp .ge 67, 3) := o_162 (u1_15 hc_X12_triedAll_32 rfl) (s2_d (u2_d (u1_16 hc_X12_triedAll_32 rfl) (u1_17 hc_X12_triedAll_32 rfl) rfl) rfl) rfl
theorem hc_X12_triedAll_48 : ((bL cX12_triedAll).drop 48).take 18 = [0, 67, 28, 184, 1, 133, 153, 0, 10, 42, 180, 0, 177, 167, 0, 4, 4, 54] := by decide +kernel
theorem dX12_triedAll_50 : decode cX12_triedAll 50 = .ok (.iload_n 2, 1) := o_28 (u1_2 hc_X12_triedAll_48 rfl) rfl
theorem dX12_triedAll_51 : decode cX12_triedAll 51 = .ok (.invokestatic 389, 3) := o_184 (u1_3 hc_X12_triedAll_48 rfl) (u2_d (u1_4 hc_X12_triedAll_48 rfl) (u1_5 hc_X12_triedAll_48 rfl) rfl) rfl
theorem dX12_triedAll_54 : decode cX12_triedAll 54 = .ok (.ifCond .eq 10, 3) := o_153 (u1_6 hc_X12_triedAll_48 rfl) (s2_d (u2_d (u1_7 hc_X12_triedAll_48 rfl) (u1_8 hc_X12_triedAll_48 rfl) rfl) rfl) rfl
theorem dX12_triedAll_57 : decode cX12_triedAll 57 = .ok (.aload_n 0, 1) := o_42 (u1_9 hc_X12_triedAll_48 rfl) rfl
theorem dX12_triedAll_58 : decode cX12_triedAll 58 = .ok (.getfield 177, 3) := o_180 (u1_10 hc_X12_triedAll_48 rfl) (u2_d (u1_11 hc_X12_triedAll_48 rfl) (u1_12 hc_X12_triedAll_48 rfl) rfl) rfl
theorem dX12_triedAll_61 : decode cX12_triedAll 61 = .ok (.goto 4, 3) := o_167 (u1_13 hc_X12_triedAll_48 rfl) (s2_d (u2_d (u1_14 hc_X12_triedAll_48 rfl) (u1_15 hc_X12_triedAll_48 rfl) rfl) rfl) rfl
theorem hc_X12_triedAll_64 : ((bL cX12_triedAll).drop 64).take 18 = [4, 54, 5, 3, 54, 6, 21, 6, 21, 5, 162, 0, 34, 42, 180, 1, 154, 17] := by decide +kernel
theorem dX12_triedAll_64 : decode cX12_triedAll 64 = .ok (.iconst 1, 1) := o_4 (u1_0 hc_X12_triedAll_64 rfl) rfl
theorem dX12_triedAll_65 : decode cX12_triedAll 65 = .ok (.istore 5, 2) := o_54 (u1_1 hc_X12_triedAll_64 rfl) (u1_2 hc_X12_triedAll_64 rfl) rfl
theorem dX12_triedAll_67 : decode cX12_triedAll 67 = .ok (.iconst 0, 1) := o_3 (u1_3 hc_X12_triedAll_64 rfl) rfl
theorem dX12_triedAll_68 : decode cX12_triedAll 68 = .ok (.istore 6, 2) := o_54 (u1_4 hc_X12_triedAll_64 rfl) (u1_5 hc_X12_triedAll_64 rfl) rfl
theorem dX12_triedAll_70 : decode cX12_triedAll 70 = .ok (.iload 6, 2) := o_21 (u1_6 hc_X12_triedAll_64 rfl) (u1_7 hc_X12_triedAll_64 rfl) rfl
theorem dX12_triedAll_72 : decode cX12_triedAll 72 = .ok (.iload 5, 2) := o_21 (u1_8 hc_X12_triedAll_64 rfl) (u1_9 hc_X12_triedAll_64 rfl) rfl
theorem dX12_triedAll_74 : decode cX12_triedAll 74 = .ok (.if_icmp .ge 34, 3) := o_162 (u1_10 hc_X12_triedAll_64 rfl) (s2_d (u2_d (u1_11 hc_X12_triedAll_64 rfl) (u1_12 hc_X12_triedAll_64 rfl) rfl) rfl) rfl
theorem dX12_triedAll_77 : decode cX12_triedAll 77 = .ok (.aload_n 0, 1) := o_42 (u1_13 hc_X12_triedAll_64 rfl) rfl
theorem dX12_triedAll_78 : decode cX12_triedAll 78 = .ok (.getfield 410, 3) := o_180 (u1_14 hc_X12_triedAll_64 rfl) (u2_d (u1_15 hc_X12_triedAll_64 rfl) (u1_16 hc_X12_triedAll_64 rfl) rfl) rfl
theorem hc_X12_triedAll_80 : ((bL cX12_triedAll).drop 80).take 18 = [154, 17, 1, 44, 162, 0, 24, 42, 27, 28, 21, 4, 21, 6, 182, 1, 172, 153] := by decide +kernel
theorem dX12_triedAll_81 : decode cX12_triedAll 81 = .ok (.sipush 300, 3) := o_17 (u1_1 hc_X12_triedAll_80 rfl) (s2_d (u2_d (u1_2 hc_X12_triedAll_80 rfl) (u1_3 hc_X12_triedAll_80 rfl) rfl) rfl) rfl
theorem dX12_triedAll_84 : decode cX12_triedAll 84 = .ok (.if_icmp .ge 24, 3) := o_162 (u1_4 hc_X12_triedAll_80 rfl) (s2_d (u2_d (u1_5 hc_X12_triedAll_80 rfl) (u1_6 hc_X12_triedAll_80 rfl) rfl) rfl) rfl
theorem dX12_triedAll_87 : decode cX12_triedAll 87 = .ok (.aload_n 0, 1) := o_42 (u1_7 hc_X12_triedAll_80 rfl) rfl
theorem dX12_triedAll_88 : decode cX12_triedAll 88 = .ok (.iload_n 1, 1) := o_27 (u1_8 hc_X12_triedAll_80 rfl) rfl
theorem dX12_triedAll_89 : decode cX12_triedAll 89 = .ok (.iload_n 2, 1) := o_28 (u1_9 hc_X12_triedAll_80 rfl) rfl
theorem dX12_triedAll_90 : decode cX12_triedAll 90 = .ok (.iload 4, 2) := o_21 (u1_10 hc_X12_triedAll_80 rfl) (u1_11 hc_X12_triedAll_80 rfl) rfl
theorem dX12_triedAll_92 : decode cX12_triedAll 92 = .ok (.iload 6, 2) := o_21 (u1_12 hc_X12_triedAll_80 rfl) (u1_13 hc_X12_triedAll_80 rfl) rfl
theorem dX12_triedAll_94 : decode cX12_triedAll 94 = .ok (.invokevirtual 428, 3) := o_182 (u1_14 hc_X12_triedAll_80 rfl) (u2_d (u1_15 hc_X12_triedAll_80 rfl) (u1_16 hc_X12_triedAll_80 rfl) rfl) rfl
theorem hc_X12_triedAll_96 : ((bL cX12_triedAll).drop 96).take 18 = [172, 153, 0, 5, 4, 172, 132, 6, 1, 167, 255, 221, 132, 4, 1, 167, 255, 189] := by decide +kernel
theorem dX12_triedAll_97 : decode cX12_triedAll 97 = .ok (.ifCond .eq 5, 3) := o_153 (u1_1 hc_X12_triedAll_96 rfl) (s2_d (u2_d (u1_2 hc_X12_triedAll_96 rfl) (u1_3 hc_X12_triedAll_96 rfl) rfl) rfl) rfl
theorem dX12_triedAll_100 : decode cX12_triedAll 100 = .ok (.iconst 1, 1) := o_4 (u1_4 hc_X12_triedAll_96 rfl) rfl
theorem dX12_triedAll_101 : decode cX12_triedAll 101 = .ok (.ireturn, 1) := o_172 (u1_5 hc_X12_triedAll_96 rfl) rfl
theorem dX12_triedAll_102 : decode cX12_triedAll 102 = .ok (.iinc 6 1, 3) := o_132 (u1_6 hc_X12_triedAll_96 rfl) (u1_7 hc_X12_triedAll_96 rfl) (s1_d (u1_8 hc_X12_triedAll_96 rfl) rfl) rfl
theorem dX12_triedAll_105 : decode cX12_triedAll 105 = .ok (.goto (-35), 3) := o_167 (u1_9 hc_X12_triedAll_96 rfl) (s2_d (u2_d (u1_10 hc_X12_triedAll_96 rfl) (u1_11 hc_X12_triedAll_96 rfl) rfl) rfl) rfl
theorem dX12_triedAll_108 : decode cX12_triedAll 108 = .ok (.iinc 4 1, 3) := o_132 (u1_12 hc_X12_triedAll_96 rfl) (u1_13 hc_X12_triedAll_96 rfl) (s1_d (u1_14 hc_X12_triedAll_96 rfl) rfl) rfl
theorem dX12_triedAll_111 : decode cX12_triedAll 111 = .ok (.goto (-67), 3) := o_167 (u1_15 hc_X12_triedAll_96 rfl) (s2_d (u2_d (u1_16 hc_X12_triedAll_96 rfl) (u1_17 hc_X12_triedAll_96 rfl) rfl) rfl) rfl
theorem hc_X12_triedAll_112 : ((bL cX12_triedAll).drop 112).take 18 = [255, 189, 132, 2, 1, 167, 255, 150, 3, 172] := by decide +kernel
theorem dX12_triedAll_114 : decode cX12_triedAll 114 = .ok (.iinc 2 1, 3) := o_132 (u1_2 hc_X12_triedAll_112 rfl) (u1_3 hc_X12_triedAll_112 rfl) (s1_d (u1_4 hc_X12_triedAll_112 rfl) rfl) rfl
theorem dX12_triedAll_117 : decode cX12_triedAll 117 = .ok (.goto (-106), 3) := o_167 (u1_5 hc_X12_triedAll_112 rfl) (s2_d (u2_d (u1_6 hc_X12_triedAll_112 rfl) (u1_7 hc_X12_triedAll_112 rfl) rfl) rfl) rfl
theorem dX12_triedAll_120 : decode cX12_triedAll 120 = .ok (.iconst 0, 1) := o_3 (u1_8 hc_X12_triedAll_112 rfl) rfl
theorem dX12_triedAll_121 : decode cX12_triedAll 121 = .ok (.ireturn, 1) := o_172 (u1_9 hc_X12_triedAll_112 rfl) rfl
theorem hc_X12_found_0 : ((bL cX12_found).drop 0).take 18 = [3, 61, 27, 62, 29, 158, 0, 16, 132, 2, 1, 42, 180, 0, 117, 29, 46, 62] := by decide +kernel
theorem dX12_found_0 : decode cX12_found 0 = .ok (.iconst 0, 1) := o_3 (u1_0 hc_X12_found_0 rfl) rfl
theorem dX12_found_1 : decode cX12_found 1 = .ok (.istore_n 2, 1) := o_61 (u1_1 hc_X12_found_0 rfl) rfl
theorem dX12_found_2 : decode cX12_found 2 = .ok (.iload_n 1, 1) := o_27 (u1_2 hc_X12_found_0 rfl) rfl
theorem dX12_found_3 : decode cX12_found 3 = .ok (.istore_n 3, 1) := o_62 (u1_3 hc_X12_found_0 rfl) rfl
theorem dX12_found_4 : decode cX12_found 4 = .ok (.iload_n 3, 1) := o_29 (u1_4 hc_X12_found_0 rfl) rfl
theorem dX12_found_5 : decode cX12_found 5 = .ok (.ifCond .le 16, 3) := o_158 (u1_5 hc_X12_found_0 rfl) (s2_d (u2_d (u1_6 hc_X12_found_0 rfl) (u1_7 hc_X12_found_0 rfl) rfl) rfl) rfl
theorem dX12_found_8 : decode cX12_found 8 = .ok (.iinc 2 1, 3) := o_132 (u1_8 hc_X12_found_0 rfl) (u1_9 hc_X12_found_0 rfl) (s1_d (u1_10 hc_X12_found_0 rfl) rfl) rfl
theorem dX12_found_11 : decode cX12_found 11 = .ok (.aload_n 0, 1) := o_42 (u1_11 hc_X12_found_0 rfl) rfl
theorem dX12_found_12 : decode cX12_found 12 = .ok (.getfield 117, 3) := o_180 (u1_12 hc_X12_found_0 rfl) (u2_d (u1_13 hc_X12_found_0 rfl) (u1_14 hc_X12_found_0 rfl) rfl) rfl
theorem dX12_found_15 : decode cX12_found 15 = .ok (.iload_n 3, 1) := o_29 (u1_15 hc_X12_found_0 rfl) rfl
theorem hc_X12_found_16 : ((bL cX12_found).drop 16).take 18 = [46, 62, 167, 255, 242, 42, 28, 181, 0, 158, 28, 62, 27, 54, 4, 21, 4, 158] := by decide +kernel
theorem dX12_found_16 : decode cX12_found 16 = .ok (.iaload, 1) := o_46 (u1_0 hc_X12_found_16 rfl) rfl
theorem dX12_found_17 : decode cX12_found 17 = .ok (.istore_n 3, 1) := o_62 (u1_1 hc_X12_found_16 rfl) rfl
theorem dX12_found_18 : decode cX12_found 18 = .ok (.goto (-14), 3) := o_167 (u1_2 hc_X12_found_16 rfl) (s2_d (u2_d (u1_3 hc_X12_found_16 rfl) (u1_4 hc_X12_found_16 rfl) rfl) rfl) rfl
theorem dX12_found_21 : decode cX12_found 21 = .ok (.aload_n 0, 1) := o_42 (u1_5 hc_X12_found_16 rfl) rfl
theorem dX12_found_22 : decode cX12_found 22 = .ok (.iload_n 2, 1) := o_28 (u1_6 hc_X12_found_16 rfl) rfl
theorem dX12_found_23 : decode cX12_found 23 = .ok (.putfield 158, 3) := o_181 (u1_7 hc_X12_found_16 rfl) (u2_d (u1_8 hc_X12_found_16 rfl) (u1_9 hc_X12_found_16 rfl) rfl) rfl
theorem dX12_found_26 : decode cX12_found 26 = .ok (.iload_n 2, 1) := o_28 (u1_10 hc_X12_found_16 rfl) rfl
theorem dX12_found_27 : decode cX12_found 27 = .ok (.istore_n 3, 1) := o_62 (u1_11 hc_X12_found_16 rfl) rfl
theorem dX12_found_28 : decode cX12_found 28 = .ok (.iload_n 1, 1) := o_27 (u1_12 hc_X12_found_16 rfl) rfl
theorem dX12_found_29 : decode cX12_found 29 = .ok (.istore 4, 2) := o_54 (u1_13 hc_X12_found_16 rfl) (u1_14 hc_X12_found_16 rfl) rfl
theorem dX12_found_31 : decode cX12_found 31 = .ok (.iload 4, 2) := o_21 (u1_15 hc_X12_found_16 rfl) (u1_16 hc_X12_found_16 rfl) rfl
theorem hc_X12_found_32 : ((bL cX12_found).drop 32).take 18 = [4, 158, 0, 56, 132, 3, 255, 3, 54, 5, 21, 5, 6, 162, 0, 32, 42, 180] := by decide +kernel
theorem dX12_found_33 : decode cX12_found 33 = .ok (.ifCond .le 56, 3) := o_158 (u1_1 hc_X12_found_32 rfl) (s2_d (u2_d (u1_2 hc_X12_found_32 rfl) (u1_3 hc_X12_found_32 rfl) rfl) rfl) rfl
theorem dX12_found_36 : decode cX12_found 36 = .ok (.iinc 3 (-1), 3) := o_132 (u1_4 hc_X12_found_32 rfl) (u1_5 hc_X12_found_32 rfl) (s1_d (u1_6 hc_X12_found_32 rfl) rfl) rfl
theorem dX12_found_39 : decode cX12_found 39 = .ok (.iconst 0, 1) := o_3 (u1_7 hc_X12_found_32 rfl) rfl
theorem dX12_found_40 : decode cX12_found 40 = .ok (.istore 5, 2) := o_54 (u1_8 hc_X12_found_32 rfl) (u1_9 hc_X12_found_32 rfl) rfl
theorem dX12_found_42 : decode cX12_found 42 = .ok (.iload 5, 2) := o_21 (u1_10 hc_X12_found_32 rfl) (u1_11 hc_X12_found_32 rfl) rfl
theorem dX12_found_44 : decode cX12_found 44 = .ok (.iconst 3, 1) := o_6 (u1_12 hc_X12_found_32 rfl) rfl
theorem dX12_found_45 : decode cX12_found 45 = .ok (.if_icmp .ge 32, 3) := o_162 (u1_13 hc_X12_found_32 rfl) (s2_d (u2_d (u1_14 hc_X12_found_32 rfl) (u1_15 hc_X12_found_32 rfl) rfl) rfl) rfl
theorem hc_X12_found_48 : ((bL cX12_found).drop 48).take 18 = [42, 180, 0, 123, 6, 29, 104, 21, 5, 96, 42, 180, 0, 120, 6, 21, 4, 104] := by decide +kernel
theorem dX12_found_48 : decode cX12_found 48 = .ok (.aload_n 0, 1) := o_42 (u1_0 hc_X12_found_48 rfl) rfl
theorem dX12_found_49 : decode cX12_found 49 = .ok (.getfield 123, 3) := o_180 (u1_1 hc_X12_found_48 rfl) (u2_d (u1_2 hc_X12_found_48 rfl) (u1_3 hc_X12_found_48 rfl) rfl) rfl
theorem dX12_found_52 : decode cX12_found 52 = .ok (.iconst 3, 1) := o_6 (u1_4 hc_X12_found_48 rfl) rfl
theorem dX12_found_53 : decode cX12_found 53 = .ok (.iload_n 3, 1) := o_29 (u1_5 hc_X12_found_48 rfl) rfl
theorem dX12_found_54 : decode cX12_found 54 = .ok (.imul, 1) := o_104 (u1_6 hc_X12_found_48 rfl) rfl
theorem dX12_found_55 : decode cX12_found 55 = .ok (.iload 5, 2) := o_21 (u1_7 hc_X12_found_48 rfl) (u1_8 hc_X12_found_48 rfl) rfl
theorem dX12_found_57 : decode cX12_found 57 = .ok (.iadd, 1) := o_96 (u1_9 hc_X12_found_48 rfl) rfl
theorem dX12_found_58 : decode cX12_found 58 = .ok (.aload_n 0, 1) := o_42 (u1_10 hc_X12_found_48 rfl) rfl
theorem dX12_found_59 : decode cX12_found 59 = .ok (.getfield 120, 3) := o_180 (u1_11 hc_X12_found_48 rfl) (u2_d (u1_12 hc_X12_found_48 rfl) (u1_13 hc_X12_found_48 rfl) rfl) rfl
theorem dX12_found_62 : decode cX12_found 62 = .ok (.iconst 3, 1) := o_6 (u1_14 hc_X12_found_48 rfl) rfl
theorem dX12_found_63 : decode cX12_found 63 = .ok (.iload 4, 2) := o_21 (u1_15 hc_X12_found_48 rfl) (u1_16 hc_X12_found_48 rfl) rfl
theorem hc_X12_found_64 : ((bL cX12_found).drop 64).take 18 = [4, 104, 21, 5, 96, 46, 79, 132, 5, 1, 167, 255, 224, 42, 180, 0, 117, 21] := by decide +kernel
theorem dX12_found_65 : decode cX12_found 65 = .ok (.imul, 1) := o_104 (u1_1 hc_X12_found_64 rfl) rfl
theorem dX12_found_66 : decode cX12_found 66 = .ok (.iload 5, 2) := o_21 (u1_2 hc_X12_found_64 rfl) (u1_3 hc_X12_found_64 rfl) rfl
theorem dX12_found_68 : decode cX12_found 68 = .ok (.iadd, 1) := o_96 (u1_4 hc_X12_found_64 rfl) rfl
theorem dX12_found_69 : decode cX12_found 69 = .ok (.iaload, 1) := o_46 (u1_5 hc_X12_found_64 rfl) rfl
theorem dX12_found_70 : decode cX12_found 70 = .ok (.iastore, 1) := o_79 (u1_6 hc_X12_found_64 rfl) rfl
theorem dX12_found_71 : decode cX12_found 71 = .ok (.iinc 5 1, 3) := o_132 (u1_7 hc_X12_found_64 rfl) (u1_8 hc_X12_found_64 rfl) (s1_d (u1_9 hc_X12_found_64 rfl) rfl) rfl
theorem dX12_found_74 : decode cX12_found 74 = .ok (.goto (-32), 3) := o_167 (u1_10 hc_X12_found_64 rfl) (s2_d (u2_d (u1_11 hc_X12_found_64 rfl) (u1_12 hc_X12_found_64 rfl) rfl) rfl) rfl
theorem dX12_found_77 : decode cX12_found 77 = .ok (.aload_n 0, 1) := o_42 (u1_13 hc_X12_found_64 rfl) rfl
theorem dX12_found_78 : decode cX12_found 78 = .ok (.getfield 117, 3) := o_180 (u1_14 hc_X12_found_64 rfl) (u2_d (u1_15 hc_X12_found_64 rfl) (u1_16 hc_X12_found_64 rfl) rfl) rfl
theorem hc_X12_found_80 : ((bL cX12_found).drop 80).take 18 = [117, 21, 4, 46, 54, 4, 167, 255, 201, 28, 172] := by decide +kernel
theorem dX12_found_81 : decode cX12_found 81 = .ok (.iload 4, 2) := o_21 (u1_1 hc_X12_found_80 rfl) (u1_2 hc_X12_found_80 rfl) rfl
theorem dX12_found_83 : decode cX12_found 83 = .ok (.iaload, 1) := o_46 (u1_3 hc_X12_found_80 rfl) rfl
theorem dX12_found_84 : decode cX12_found 84 = .ok (.istore 4, 2) := o_54 (u1_4 hc_X12_found_80 rfl) (u1_5 hc_X12_found_80 rfl) rfl
theorem dX12_found_86 : decode cX12_found 86 = .ok (.goto (-55), 3) := o_167 (u1_6 hc_X12_found_80 rfl) (s2_d (u2_d (u1_7 hc_X12_found_80 rfl) (u1_8 hc_X12_found_80 rfl) rfl) rfl) rfl
theorem dX12_found_89 : decode cX12_found 89 = .ok (.iload_n 2, 1) := o_28 (u1_9 hc_X12_found_80 rfl) rfl
theorem dX12_found_90 : decode cX12_found 90 = .ok (.ireturn, 1) := o_172 (u1_10 hc_X12_found_80 rfl) rfl
theorem hc_X12_seek_0 : ((bL cX12_seek).drop 0).take 18 = [42, 27, 182, 0, 180, 153, 0, 23, 42, 28, 182, 0, 180, 153, 0, 15, 29, 133] := by decide +kernel
theorem dX12_seek_0 : decode cX12_seek 0 = .ok (.aload_n 0, 1) := o_42 (u1_0 hc_X12_seek_0 rfl) rfl
theorem dX12_seek_1 : decode cX12_seek 1 = .ok (.iload_n 1, 1) := o_27 (u1_1 hc_X12_seek_0 rfl) rfl
theorem dX12_seek_2 : decode cX12_seek 2 = .ok (.invokevirtual 180, 3) := o_182 (u1_2 hc_X12_seek_0 rfl) (u2_d (u1_3 hc_X12_seek_0 rfl) (u1_4 hc_X12_seek_0 rfl) rfl) rfl
theorem dX12_seek_5 : decode cX12_seek 5 = .ok (.ifCond .eq 23, 3) := o_153 (u1_5 hc_X12_seek_0 rfl) (s2_d (u2_d (u1_6 hc_X12_seek_0 rfl) (u1_7 hc_X12_seek_0 rfl) rfl) rfl) rfl
theorem dX12_seek_8 : decode cX12_seek 8 = .ok (.aload_n 0, 1) := o_42 (u1_8 hc_X12_seek_0 rfl) rfl
theorem dX12_seek_9 : decode cX12_seek 9 = .ok (.iload_n 2, 1) := o_28 (u1_9 hc_X12_seek_0 rfl) rfl
theorem dX12_seek_10 : decode cX12_seek 10 = .ok (.invokevirtual 180, 3) := o_182 (u1_10 hc_X12_seek_0 rfl) (u2_d (u1_11 hc_X12_seek_0 rfl) (u1_12 hc_X12_seek_0 rfl) rfl) rfl
theorem dX12_seek_13 : decode cX12_seek 13 = .ok (.ifCond .eq 15, 3) := o_153 (u1_13 hc_X12_seek_0 rfl) (s2_d (u2_d (u1_14 hc_X12_seek_0 rfl) (u1_15 hc_X12_seek_0 rfl) rfl) rfl) rfl
theorem hc_X12_seek_16 : ((bL cX12_seek).drop 16).take 18 = [29, 133, 9, 20, 1, 175, 184, 0, 166, 154, 0, 5, 2, 172, 42, 180, 0, 155] := by decide +kernel
theorem dX12_seek_16 : decode cX12_seek 16 = .ok (.iload_n 3, 1) := o_29 (u1_0 hc_X12_seek_16 rfl) rfl
theorem dX12_seek_17 : decode cX12_seek 17 = .ok (.i2l, 1) := o_133 (u1_1 hc_X12_seek_16 rfl) rfl
theorem dX12_seek_18 : decode cX12_seek 18 = .ok (.lconst 0, 1) := o_9 (u1_2 hc_X12_seek_16 rfl) rfl
theorem dX12_seek_19 : decode cX12_seek 19 = .ok (.ldc2_w 431, 3) := o_20 (u1_3 hc_X12_seek_16 rfl) (u2_d (u1_4 hc_X12_seek_16 rfl) (u1_5 hc_X12_seek_16 rfl) rfl) rfl
theorem dX12_seek_22 : decode cX12_seek 22 = .ok (.invokestatic 166, 3) := o_184 (u1_6 hc_X12_seek_16 rfl) (u2_d (u1_7 hc_X12_seek_16 rfl) (u1_8 hc_X12_seek_16 rfl) rfl) rfl
theorem dX12_seek_25 : decode cX12_seek 25 = .ok (.ifCond .ne 5, 3) := o_154 (u1_9 hc_X12_seek_16 rfl) (s2_d (u2_d (u1_10 hc_X12_seek_16 rfl) (u1_11 hc_X12_seek_16 rfl) rfl) rfl) rfl
theorem dX12_seek_28 : decode cX12_seek 28 = .ok (.iconst (-1), 1) := o_2 (u1_12 hc_X12_seek_16 rfl) rfl
theorem dX12_seek_29 : decode cX12_seek 29 = .ok (.ireturn, 1) := o_172 (u1_13 hc_X12_seek_16 rfl) rfl
theorem dX12_seek_30 : decode cX12_seek 30 = .ok (.aload_n 0, 1) := o_42 (u1_14 hc_X12_seek_16 rfl) rfl
theorem dX12_seek_31 : decode cX12_seek 31 = .ok (.getfield 155, 3) := o_180 (u1_15 hc_X12_seek_16 rfl) (u2_d (u1_16 hc_X12_seek_16 rfl) (u1_17 hc_X12_seek_16 rfl) rfl) rfl
theorem hc_X12_seek_32 : ((bL cX12_seek).drop 32).take 18 = [0, 155, 16, 247, 160, 0, 6, 16, 251, 172, 42, 182, 1, 136, 42, 27, 181, 1] := by decide +kernel
theorem dX12_seek_34 : decode cX12_seek 34 = .ok (.bipush (-9), 2) := o_16 (u1_2 hc_X12_seek_32 rfl) (s1_d (u1_3 hc_X12_seek_32 rfl) rfl) rfl
theorem dX12_seek_36 : decode cX12_seek 36 = .ok (.if_icmp .ne 6, 3) := o_160 (u1_4 hc_X12_seek_32 rfl) (s2_d (u2_d (u1_5 hc_X12_seek_32 rfl) (u1_6 hc_X12_seek_32 rfl) rfl) rfl) rfl
theorem dX12_seek_39 : decode cX12_seek 39 = .ok (.bipush (-5), 2) := o_16 (u1_7 hc_X12_seek_32 rfl) (s1_d (u1_8 hc_X12_seek_32 rfl) rfl) rfl
theorem dX12_seek_41 : decode cX12_seek 41 = .ok (.ireturn, 1) := o_172 (u1_9 hc_X12_seek_32 rfl) rfl
theorem dX12_seek_42 : decode cX12_seek 42 = .ok (.aload_n 0, 1) := o_42 (u1_10 hc_X12_seek_32 rfl) rfl
theorem dX12_seek_43 : decode cX12_seek 43 = .ok (.invokevirtual 392, 3) := o_182 (u1_11 hc_X12_seek_32 rfl) (u2_d (u1_12 hc_X12_seek_32 rfl) (u1_13 hc_X12_seek_32 rfl) rfl) rfl
theorem dX12_seek_46 : decode cX12_seek 46 = .ok (.aload_n 0, 1) := o_42 (u1_14 hc_X12_seek_32 rfl) rfl
theorem dX12_seek_47 : decode cX12_seek 47 = .ok (.iload_n 1, 1) := o_27 (u1_15 hc_X12_seek_32 rfl) rfl
theorem hc_X12_seek_48 : ((bL cX12_seek).drop 48).take 18 = [181, 1, 163, 42, 28, 181, 1, 166, 42, 16, 247, 181, 0, 158, 42, 17, 1, 44] := by decide +kernel
theorem dX12_seek_48 : decode cX12_seek 48 = .ok (.putfield 419, 3) := o_181 (u1_0 hc_X12_seek_48 rfl) (u2_d (u1_1 hc_X12_seek_48 rfl) (u1_2 hc_X12_seek_48 rfl) rfl) rfl
theorem dX12_seek_51 : decode cX12_seek 51 = .ok (.aload_n 0, 1) := o_42 (u1_3 hc_X12_seek_48 rfl) rfl
theorem dX12_seek_52 : decode cX12_seek 52 = .ok (.iload_n 2, 1) := o_28 (u1_4 hc_X12_seek_48 rfl) rfl
theorem dX12_seek_53 : decode cX12_seek 53 = .ok (.putfield 422, 3) := o_181 (u1_5 hc_X12_seek_48 rfl) (u2_d (u1_6 hc_X12_seek_48 rfl) (u1_7 hc_X12_seek_48 rfl) rfl) rfl
theorem dX12_seek_56 : decode cX12_seek 56 = .ok (.aload_n 0, 1) := o_42 (u1_8 hc_X12_seek_48 rfl) rfl
theorem dX12_seek_57 : decode cX12_seek 57 = .ok (.bipush (-9), 2) := o_16 (u1_9 hc_X12_seek_48 rfl) (s1_d (u1_10 hc_X12_seek_48 rfl) rfl) rfl
theorem dX12_seek_59 : decode cX12_seek 59 = .ok (.putfield 158, 3) := o_181 (u1_11 hc_X12_seek_48 rfl) (u2_d (u1_12 hc_X12_seek_48 rfl) (u1_13 hc_X12_seek_48 rfl) rfl) rfl
theorem dX12_seek_62 : decode cX12_seek 62 = .ok (.aload_n 0, 1) := o_42 (u1_14 hc_X12_seek_48 rfl) rfl
theorem dX12_seek_63 : decode cX12_seek 63 = .ok (.sipush 300, 3) := o_17 (u1_15 hc_X12_seek_48 rfl) (s2_d (u2_d (u1_16 hc_X12_seek_48 rfl) (u1_17 hc_X12_seek_48 rfl) rfl) rfl) rfl
theorem hc_X12_seek_64 : ((bL cX12_seek).drop 64).take 18 = [1, 44, 182, 1, 160, 42, 3, 182, 1, 160, 42, 180, 0, 117, 3, 16, 247, 79] := by decide +kernel
theorem dX12_seek_66 : decode cX12_seek 66 = .ok (.invokevirtual 416, 3) := o_182 (u1_2 hc_X12_seek_64 rfl) (u2_d (u1_3 hc_X12_seek_64 rfl) (u1_4 hc_X12_seek_64 rfl) rfl) rfl
theorem dX12_seek_69 : decode cX12_seek 69 = .ok (.aload_n 0, 1) := o_42 (u1_5 hc_X12_seek_64 rfl) rfl
theorem dX12_seek_70 : decode cX12_seek 70 = .ok (.iconst 0, 1) := o_3 (u1_6 hc_X12_seek_64 rfl) rfl
theorem dX12_seek_71 : decode cX12_seek 71 = .ok (.invokevirtual 416, 3) := o_182 (u1_7 hc_X12_seek_64 rfl) (u2_d (u1_8 hc_X12_seek_64 rfl) (u1_9 hc_X12_seek_64 rfl) rfl) rfl
theorem dX12_seek_74 : decode cX12_seek 74 = .ok (.aload_n 0, 1) := o_42 (u1_10 hc_X12_seek_64 rfl) rfl
theorem dX12_seek_75 : decode cX12_seek 75 = .ok (.getfield 117, 3) := o_180 (u1_11 hc_X12_seek_64 rfl) (u2_d (u1_12 hc_X12_seek_64 rfl) (u1_13 hc_X12_seek_64 rfl) rfl) rfl
theorem dX12_seek_78 : decode cX12_seek 78 = .ok (.iconst 0, 1) := o_3 (u1_14 hc_X12_seek_64 rfl) rfl
theorem dX12_seek_79 : decode cX12_seek 79 = .ok (.bipush (-9), 2) := o_16 (u1_15 hc_X12_seek_64 rfl) (s1_d (u1_16 hc_X12_seek_64 rfl) rfl) rfl
theorem hc_X12_seek_80 : ((bL cX12_seek).drop 80).take 18 = [247, 79, 42, 4, 181, 1, 154, 16, 247, 54, 4, 42, 180, 0, 50, 27, 46, 16] := by decide +kernel
theorem dX12_seek_81 : decode cX12_seek 81 = .ok (.iastore, 1) := o_79 (u1_1 hc_X12_seek_80 rfl) rfl
theorem dX12_seek_82 : decode cX12_seek 82 = .ok (.aload_n 0, 1) := o_42 (u1_2 hc_X12_seek_80 rfl) rfl
theorem dX12_seek_83 : decode cX12_seek 83 = .ok (.iconst 1, 1) := o_4 (u1_3 hc_X12_seek_80 rfl) rfl
theorem dX12_seek_84 : decode cX12_seek 84 = .ok (.putfield 410, 3) := o_181 (u1_4 hc_X12_seek_80 rfl) (u2_d (u1_5 hc_X12_seek_80 rfl) (u1_6 hc_X12_seek_80 rfl) rfl) rfl
theorem dX12_seek_87 : decode cX12_seek 87 = .ok (.bipush (-9), 2) := o_16 (u1_7 hc_X12_seek_80 rfl) (s1_d (u1_8 hc_X12_seek_80 rfl) rfl) rfl
theorem dX12_seek_89 : decode cX12_seek 89 = .ok (.istore 4, 2) := o_54 (u1_9 hc_X12_seek_80 rfl) (u1_10 hc_X12_seek_80 rfl) rfl
theorem dX12_seek_91 : decode cX12_seek 91 = .ok (.aload_n 0, 1) := o_42 (u1_11 hc_X12_seek_80 rfl) rfl
theorem dX12_seek_92 : decode cX12_seek 92 = .ok (.getfield 50, 3) := o_180 (u1_12 hc_X12_seek_80 rfl) (u2_d (u1_13 hc_X12_seek_80 rfl) (u1_14 hc_X12_seek_80 rfl) rfl) rfl
theorem dX12_seek_95 : decode cX12_seek 95 = .ok (.iload_n 1, 1) := o_27 (u1_15 hc_X12_seek_80 rfl) rfl
theorem hc_X12_seek_96 : ((bL cX12_seek).drop 96).take 18 = [46, 16, 247, 159, 0, 20, 42, 180, 0, 53, 27, 46, 28, 160, 0, 10, 42, 3] := by decide +kernel
theorem dX12_seek_96 : decode cX12_seek 96 = .ok (.iaload, 1) := o_46 (u1_0 hc_X12_seek_96 rfl) rfl
theorem dX12_seek_97 : decode cX12_seek 97 = .ok (.bipush (-9), 2) := o_16 (u1_1 hc_X12_seek_96 rfl) (s1_d (u1_2 hc_X12_seek_96 rfl) rfl) rfl
theorem dX12_seek_99 : decode cX12_seek 99 = .ok (.if_icmp .eq 20, 3) := o_159 (u1_3 hc_X12_seek_96 rfl) (s2_d (u2_d (u1_4 hc_X12_seek_96 rfl) (u1_5 hc_X12_seek_96 rfl) rfl) rfl) rfl
theorem dX12_seek_102 : decode cX12_seek 102 = .ok (.aload_n 0, 1) := o_42 (u1_6 hc_X12_seek_96 rfl) rfl
theorem dX12_seek_103 : decode cX12_seek 103 = .ok (.getfield 53, 3) := o_180 (u1_7 hc_X12_seek_96 rfl) (u2_d (u1_8 hc_X12_seek_96 rfl) (u1_9 hc_X12_seek_96 rfl) rfl) rfl
theorem dX12_seek_106 : decode cX12_seek 106 = .ok (.iload_n 1, 1) := o_27 (u1_10 hc_X12_seek_96 rfl) rfl
theorem dX12_seek_107 : decode cX12_seek 107 = .ok (.iaload, 1) := o_46 (u1_11 hc_X12_seek_96 rfl) rfl
theorem dX12_seek_108 : decode cX12_seek 108 = .ok (.iload_n 2, 1) := o_28 (u1_12 hc_X12_seek_96 rfl) rfl
theorem dX12_seek_109 : decode cX12_seek 109 = .ok (.if_icmp .ne 10, 3) := o_160 (u1_13 hc_X12_seek_96 rfl) (s2_d (u2_d (u1_14 hc_X12_seek_96 rfl) (u1_15 hc_X12_seek_96 rfl) rfl) rfl) rfl
theorem hc_X12_seek_112 : ((bL cX12_seek).drop 112).take 18 = [42, 3, 182, 1, 177, 54, 4, 3, 54, 5, 21, 5, 29, 162, 0, 56, 21, 5] := by decide +kernel
theorem dX12_seek_112 : decode cX12_seek 112 = .ok (.aload_n 0, 1) := o_42 (u1_0 hc_X12_seek_112 rfl) rfl
theorem dX12_seek_113 : decode cX12_seek 113 = .ok (.iconst 0, 1) := o_3 (u1_1 hc_X12_seek_112 rfl) rfl
theorem dX12_seek_114 : decode cX12_seek 114 = .ok (.invokevirtual 433, 3) := o_182 (u1_2 hc_X12_seek_112 rfl) (u2_d (u1_3 hc_X12_seek_112 rfl) (u1_4 hc_X12_seek_112 rfl) rfl) rfl
theorem dX12_seek_117 : decode cX12_seek 117 = .ok (.istore 4, 2) := o_54 (u1_5 hc_X12_seek_112 rfl) (u1_6 hc_X12_seek_112 rfl) rfl
theorem dX12_seek_119 : decode cX12_seek 119 = .ok (.iconst 0, 1) := o_3 (u1_7 hc_X12_seek_112 rfl) rfl
theorem dX12_seek_120 : decode cX12_seek 120 = .ok (.istore 5, 2) := o_54 (u1_8 hc_X12_seek_112 rfl) (u1_9 hc_X12_seek_112 rfl) rfl
theorem dX12_seek_122 : decode cX12_seek 122 = .ok (.iload 5, 2) := o_21 (u1_10 hc_X12_seek_112 rfl) (u1_11 hc_X12_seek_112 rfl) rfl
theorem dX12_seek_124 : decode cX12_seek 124 = .ok (.iload_n 3, 1) := o_29 (u1_12 hc_X12_seek_112 rfl) rfl
theorem dX12_seek_125 : decode cX12_seek 125 = .ok (.if_icmp .ge 56, 3) := o_162 (u1_13 hc_X12_seek_112 rfl) (s2_d (u2_d (u1_14 hc_X12_seek_112 rfl) (u1_15 hc_X12_seek_112 rfl) rfl) rfl) rfl
theorem hc_X12_seek_128 : ((bL cX12_seek).drop 128).take 18 = [21, 5, 42, 180, 1, 154, 162, 0, 47, 42, 180, 1, 154, 17, 1, 44, 162, 0] := by decide +kernel
theorem dX12_seek_128 : decode cX12_seek 128 = .ok (.iload 5, 2) := o_21 (u1_0 hc_X12_seek_128 rfl) (u1_1 hc_X12_seek_128 rfl) rfl
theorem dX12_seek_130 : decode cX12_seek 130 = .ok (.aload_n 0, 1) := o_42 (u1_2 hc_X12_seek_128 rfl) rfl
theorem dX12_seek_131 : decode cX12_seek 131 = .ok (.getfield 410, 3) := o_180 (u1_3 hc_X12_seek_128 rfl) (u2_d (u1_4 hc_X12_seek_128 rfl) (u1_5 hc_X12_seek_128 rfl) rfl) rfl
theorem dX12_seek_134 : decode cX12_seek 134 = .ok (.if_icmp .ge 47, 3) := o_162 (u1_6 hc_X12_seek_128 rfl) (s2_d (u2_d (u1_7 hc_X12_seek_128 rfl) (u1_8 hc_X12_seek_128 rfl) rfl) rfl) rfl
theorem dX12_seek_137 : decode cX12_seek 137 = .ok (.aload_n 0, 1) := o_42 (u1_9 hc_X12_seek_128 rfl) rfl
theorem dX12_seek_138 : decode cX12_seek 138 = .ok (.getfield 410, 3) := o_180 (u1_10 hc_X12_seek_128 rfl) (u2_d (u1_11 hc_X12_seek_128 rfl) (u1_12 hc_X12_seek_128 rfl) rfl) rfl
theorem dX12_seek_141 : decode cX12_seek 141 = .ok (.sipush 300, 3) := o_17 (u1_13 hc_X12_seek_128 rfl) (s2_d (u2_d (u1_14 hc_X12_seek_128 rfl) (u1_15 hc_X12_seek_128 rfl) rfl) rfl) rfl
theorem hc_X12_seek_144 : ((bL cX12_seek).drop 144).take 18 = [162, 0, 37, 21, 4, 16, 247, 160, 0, 30, 42, 21, 5, 182, 1, 180, 153, 0] := by decide +kernel
theorem dX12_seek_144 : decode cX12_seek 144 = .ok (.if_icmp .ge 37, 3) := o_162 (u1_0 hc_X12_seek_144 rfl) (s2_d (u2_d (u1_1 hc_X12_seek_144 rfl) (u1_2 hc_X12_seek_144 rfl) rfl) rfl) rfl
theorem dX12_seek_147 : decode cX12_seek 147 = .ok (.iload 4, 2) := o_21 (u1_3 hc_X12_seek_144 rfl) (u1_4 hc_X12_seek_144 rfl) rfl
theorem dX12_seek_149 : decode cX12_seek 149 = .ok (.bipush (-9), 2) := o_16 (u1_5 hc_X12_seek_144 rfl) (s1_d (u1_6 hc_X12_seek_144 rfl) rfl) rfl
theorem dX12_seek_151 : decode cX12_seek 151 = .ok (.if_icmp .ne 30, 3) := o_160 (u1_7 hc_X12_seek_144 rfl) (s2_d (u2_d (u1_8 hc_X12_seek_144 rfl) (u1_9 hc_X12_seek_144 rfl) rfl) rfl) rfl
theorem dX12_seek_154 : decode cX12_seek 154 = .ok (.aload_n 0, 1) := o_42 (u1_10 hc_X12_seek_144 rfl) rfl
theorem dX12_seek_155 : decode cX12_seek 155 = .ok (.iload 5, 2) := o_21 (u1_11 hc_X12_seek_144 rfl) (u1_12 hc_X12_seek_144 rfl) rfl
theorem dX12_seek_157 : decode cX12_seek 157 = .ok (.invokevirtual 436, 3) := o_182 (u1_13 hc_X12_seek_144 rfl) (u2_d (u1_14 hc_X12_seek_144 rfl) (u1_15 hc_X12_seek_144 rfl) rfl) rfl
theorem hc_X12_seek_160 : ((bL cX12_seek).drop 160).take 18 = [153, 0, 15, 42, 42, 180, 1, 154, 4, 100, 182, 1, 177, 54, 4, 132, 5, 1] := by decide +kernel
theorem dX12_seek_160 : decode cX12_seek 160 = .ok (.ifCond .eq 15, 3) := o_153 (u1_0 hc_X12_seek_160 rfl) (s2_d (u2_d (u1_1 hc_X12_seek_160 rfl) (u1_2 hc_X12_seek_160 rfl) rfl) rfl) rfl
theorem dX12_seek_163 : decode cX12_seek 163 = .ok (.aload_n 0, 1) := o_42 (u1_3 hc_X12_seek_160 rfl) rfl
theorem dX12_seek_164 : decode cX12_seek 164 = .ok (.aload_n 0, 1) := o_42 (u1_4 hc_X12_seek_160 rfl) rfl
theorem dX12_seek_165 : decode cX12_seek 165 = .ok (.getfield 410, 3) := o_180 (u1_5 hc_X12_seek_160 rfl) (u2_d (u1_6 hc_X12_seek_160 rfl) (u1_7 hc_X12_seek_160 rfl) rfl) rfl
theorem dX12_seek_168 : decode cX12_seek 168 = .ok (.iconst 1, 1) := o_4 (u1_8 hc_X12_seek_160 rfl) rfl
theorem dX12_seek_169 : decode cX12_seek 169 = .ok (.isub, 1) := o_100 (u1_9 hc_X12_seek_160 rfl) rfl
theorem dX12_seek_170 : decode cX12_seek 170 = .ok (.invokevirtual 433, 3) := o_182 (u1_10 hc_X12_seek_160 rfl) (u2_d (u1_11 hc_X12_seek_160 rfl) (u1_12 hc_X12_seek_160 rfl) rfl) rfl
theorem dX12_seek_173 : decode cX12_seek 173 = .ok (.istore 4, 2) := o_54 (u1_13 hc_X12_seek_160 rfl) (u1_14 hc_X12_seek_160 rfl) rfl
theorem dX12_seek_175 : decode cX12_seek 175 = .ok (.iinc 5 1, 3) := o_132 (u1_15 hc_X12_seek_160 rfl) (u1_16 hc_X12_seek_160 rfl) (s1_d (u1_17 hc_X12_seek_160 rfl) rfl) rfl
theorem hc_X12_seek_176 : ((bL cX12_seek).drop 176).take 18 = [5, 1, 167, 255, 200, 42, 17, 1, 44, 182, 1, 169, 21, 4, 172] := by decide +kernel
theorem dX12_seek_178 : decode cX12_seek 178 = .ok (.goto (-56), 3) := o_167 (u1_2 hc_X12_seek_176 rfl) (s2_d (u2_d (u1_3 hc_X12_seek_176 rfl) (u1_4 hc_X12_seek_176 rfl) rfl) rfl) rfl
theorem dX12_seek_181 : decode cX12_seek 181 = .ok (.aload_n 0, 1) := o_42 (u1_5 hc_X12_seek_176 rfl) rfl
theorem dX12_seek_182 : decode cX12_seek 182 = .ok (.sipush 300, 3) := o_17 (u1_6 hc_X12_seek_176 rfl) (s2_d (u2_d (u1_7 hc_X12_seek_176 rfl) (u1_8 hc_X12_seek_176 rfl) rfl) rfl) rfl
theorem dX12_seek_185 : decode cX12_seek 185 = .ok (.invokevirtual 425, 3) := o_182 (u1_9 hc_X12_seek_176 rfl) (u2_d (u1_10 hc_X12_seek_176 rfl) (u1_11 hc_X12_seek_176 rfl) rfl) rfl
theorem dX12_seek_188 : decode cX12_seek 188 = .ok (.iload 4, 2) := o_21 (u1_12 hc_X12_seek_176 rfl) (u1_13 hc_X12_seek_176 rfl) rfl
theorem dX12_seek_190 : decode cX12_seek 190 = .ok (.ireturn, 1) := o_172 (u1_14 hc_X12_seek_176 rfl) rfl
theorem hc_X12_sought_0 : ((bL cX12_sought).drop 0).take 18 = [28, 133, 9, 20, 0, 254, 184, 0, 166, 154, 0, 5, 2, 172, 27, 133, 9, 42] := by decide +kernel
theorem dX12_sought_0 : decode cX12_sought 0 = .ok (.iload_n 2, 1) := o_28 (u1_0 hc_X12_sought_0 rfl) rfl
theorem dX12_sought_1 : decode cX12_sought 1 = .ok (.i2l, 1) := o_133 (u1_1 hc_X12_sought_0 rfl) rfl
theorem dX12_sought_2 : decode cX12_sought 2 = .ok (.lconst 0, 1) := o_9 (u1_2 hc_X12_sought_0 rfl) rfl
theorem dX12_sought_3 : decode cX12_sought 3 = .ok (.ldc2_w 254, 3) := o_20 (u1_3 hc_X12_sought_0 rfl) (u2_d (u1_4 hc_X12_sought_0 rfl) (u1_5 hc_X12_sought_0 rfl) rfl) rfl
theorem dX12_sought_6 : decode cX12_sought 6 = .ok (.invokestatic 166, 3) := o_184 (u1_6 hc_X12_sought_0 rfl) (u2_d (u1_7 hc_X12_sought_0 rfl) (u1_8 hc_X12_sought_0 rfl) rfl) rfl
theorem dX12_sought_9 : decode cX12_sought 9 = .ok (.ifCond .ne 5, 3) := o_154 (u1_9 hc_X12_sought_0 rfl) (s2_d (u2_d (u1_10 hc_X12_sought_0 rfl) (u1_11 hc_X12_sought_0 rfl) rfl) rfl) rfl
theorem dX12_sought_12 : decode cX12_sought 12 = .ok (.iconst (-1), 1) := o_2 (u1_12 hc_X12_sought_0 rfl) rfl
theorem dX12_sought_13 : decode cX12_sought 13 = .ok (.ireturn, 1) := o_172 (u1_13 hc_X12_sought_0 rfl) rfl
theorem dX12_sought_14 : decode cX12_sought 14 = .ok (.iload_n 1, 1) := o_27 (u1_14 hc_X12_sought_0 rfl) rfl
theorem dX12_sought_15 : decode cX12_sought 15 = .ok (.i2l, 1) := o_133 (u1_15 hc_X12_sought_0 rfl) rfl
theorem hc_X12_sought_16 : ((bL cX12_sought).drop 16).take 18 = [9, 42, 180, 0, 158, 4, 100, 133, 184, 0, 166, 153, 0, 16, 42, 180, 0, 123] := by decide +kernel
theorem dX12_sought_16 : decode cX12_sought 16 = .ok (.lconst 0, 1) := o_9 (u1_0 hc_X12_sought_16 rfl) rfl
theorem dX12_sought_17 : decode cX12_sought 17 = .ok (.aload_n 0, 1) := o_42 (u1_1 hc_X12_sought_16 rfl) rfl
theorem dX12_sought_18 : decode cX12_sought 18 = .ok (.getfield 158, 3) := o_180 (u1_2 hc_X12_sought_16 rfl) (u2_d (u1_3 hc_X12_sought_16 rfl) (u1_4 hc_X12_sought_16 rfl) rfl) rfl
theorem dX12_sought_21 : decode cX12_sought 21 = .ok (.iconst 1, 1) := o_4 (u1_5 hc_X12_sought_16 rfl) rfl
theorem dX12_sought_22 : decode cX12_sought 22 = .ok (.isub, 1) := o_100 (u1_6 hc_X12_sought_16 rfl) rfl
theorem dX12_sought_23 : decode cX12_sought 23 = .ok (.i2l, 1) := o_133 (u1_7 hc_X12_sought_16 rfl) rfl
theorem dX12_sought_24 : decode cX12_sought 24 = .ok (.invokestatic 166, 3) := o_184 (u1_8 hc_X12_sought_16 rfl) (u2_d (u1_9 hc_X12_sought_16 rfl) (u1_10 hc_X12_sought_16 rfl) rfl) rfl
theorem dX12_sought_27 : decode cX12_sought 27 = .ok (.ifCond .eq 16, 3) := o_153 (u1_11 hc_X12_sought_16 rfl) (s2_d (u2_d (u1_12 hc_X12_sought_16 rfl) (u1_13 hc_X12_sought_16 rfl) rfl) rfl) rfl
theorem dX12_sought_30 : decode cX12_sought 30 = .ok (.aload_n 0, 1) := o_42 (u1_14 hc_X12_sought_16 rfl) rfl
theorem dX12_sought_31 : decode cX12_sought 31 = .ok (.getfield 123, 3) := o_180 (u1_15 hc_X12_sought_16 rfl) (u2_d (u1_16 hc_X12_sought_16 rfl) (u1_17 hc_X12_sought_16 rfl) rfl) rfl
theorem hc_X12_sought_32 : ((bL cX12_sought).drop 32).take 18 = [0, 123, 6, 27, 104, 28, 96, 46, 167, 0, 5, 16, 247, 172] := by decide +kernel
theorem dX12_sought_34 : decode cX12_sought 34 = .ok (.iconst 3, 1) := o_6 (u1_2 hc_X12_sought_32 rfl) rfl
theorem dX12_sought_35 : decode cX12_sought 35 = .ok (.iload_n 1, 1) := o_27 (u1_3 hc_X12_sought_32 rfl) rfl
theorem dX12_sought_36 : decode cX12_sought 36 = .ok (.imul, 1) := o_104 (u1_4 hc_X12_sought_32 rfl) rfl
theorem dX12_sought_37 : decode cX12_sought 37 = .ok (.iload_n 2, 1) := o_28 (u1_5 hc_X12_sought_32 rfl) rfl
theorem dX12_sought_38 : decode cX12_sought 38 = .ok (.iadd, 1) := o_96 (u1_6 hc_X12_sought_32 rfl) rfl
theorem dX12_sought_39 : decode cX12_sought 39 = .ok (.iaload, 1) := o_46 (u1_7 hc_X12_sought_32 rfl) rfl
theorem dX12_sought_40 : decode cX12_sought 40 = .ok (.goto 5, 3) := o_167 (u1_8 hc_X12_sought_32 rfl) (s2_d (u2_d (u1_9 hc_X12_sought_32 rfl) (u1_10 hc_X12_sought_32 rfl) rfl) rfl) rfl
theorem dX12_sought_43 : decode cX12_sought 43 = .ok (.bipush (-9), 2) := o_16 (u1_11 hc_X12_sought_32 rfl) (s1_d (u1_12 hc_X12_sought_32 rfl) rfl) rfl
theorem dX12_sought_45 : decode cX12_sought 45 = .ok (.ireturn, 1) := o_172 (u1_13 hc_X12_sought_32 rfl) rfl
theorem hc_X12_line_0 : ((bL cX12_line).drop 0).take 18 = [42, 27, 182, 0, 180, 153, 0, 21, 28, 133, 9, 20, 1, 23, 184, 0, 166, 153] := by decide +kernel
theorem dX12_line_0 : decode cX12_line 0 = .ok (.aload_n 0, 1) := o_42 (u1_0 hc_X12_line_0 rfl) rfl
theorem dX12_line_1 : decode cX12_line 1 = .ok (.iload_n 1, 1) := o_27 (u1_1 hc_X12_line_0 rfl) rfl
theorem dX12_line_2 : decode cX12_line 2 = .ok (.invokevirtual 180, 3) := o_182 (u1_2 hc_X12_line_0 rfl) (u2_d (u1_3 hc_X12_line_0 rfl) (u1_4 hc_X12_line_0 rfl) rfl) rfl
theorem dX12_line_5 : decode cX12_line 5 = .ok (.ifCond .eq 21, 3) := o_153 (u1_5 hc_X12_line_0 rfl) (s2_d (u2_d (u1_6 hc_X12_line_0 rfl) (u1_7 hc_X12_line_0 rfl) rfl) rfl) rfl
theorem dX12_line_8 : decode cX12_line 8 = .ok (.iload_n 2, 1) := o_28 (u1_8 hc_X12_line_0 rfl) rfl
theorem dX12_line_9 : decode cX12_line 9 = .ok (.i2l, 1) := o_133 (u1_9 hc_X12_line_0 rfl) rfl
theorem dX12_line_10 : decode cX12_line 10 = .ok (.lconst 0, 1) := o_9 (u1_10 hc_X12_line_0 rfl) rfl
theorem dX12_line_11 : decode cX12_line 11 = .ok (.ldc2_w 279, 3) := o_20 (u1_11 hc_X12_line_0 rfl) (u2_d (u1_12 hc_X12_line_0 rfl) (u1_13 hc_X12_line_0 rfl) rfl) rfl
theorem dX12_line_14 : decode cX12_line 14 = .ok (.invokestatic 166, 3) := o_184 (u1_14 hc_X12_line_0 rfl) (u2_d (u1_15 hc_X12_line_0 rfl) (u1_16 hc_X12_line_0 rfl) rfl) rfl
theorem hc_X12_line_16 : ((bL cX12_line).drop 16).take 18 = [166, 153, 0, 9, 29, 16, 12, 164, 0, 5, 2, 172, 29, 156, 0, 9, 42, 8] := by decide +kernel
theorem dX12_line_17 : decode cX12_line 17 = .ok (.ifCond .eq 9, 3) := o_153 (u1_1 hc_X12_line_16 rfl) (s2_d (u2_d (u1_2 hc_X12_line_16 rfl) (u1_3 hc_X12_line_16 rfl) rfl) rfl) rfl
theorem dX12_line_20 : decode cX12_line 20 = .ok (.iload_n 3, 1) := o_29 (u1_4 hc_X12_line_16 rfl) rfl
theorem dX12_line_21 : decode cX12_line 21 = .ok (.bipush 12, 2) := o_16 (u1_5 hc_X12_line_16 rfl) (s1_d (u1_6 hc_X12_line_16 rfl) rfl) rfl
theorem dX12_line_23 : decode cX12_line 23 = .ok (.if_icmp .le 5, 3) := o_164 (u1_7 hc_X12_line_16 rfl) (s2_d (u2_d (u1_8 hc_X12_line_16 rfl) (u1_9 hc_X12_line_16 rfl) rfl) rfl) rfl
theorem dX12_line_26 : decode cX12_line 26 = .ok (.iconst (-1), 1) := o_2 (u1_10 hc_X12_line_16 rfl) rfl
theorem dX12_line_27 : decode cX12_line 27 = .ok (.ireturn, 1) := o_172 (u1_11 hc_X12_line_16 rfl) rfl
theorem dX12_line_28 : decode cX12_line 28 = .ok (.iload_n 3, 1) := o_29 (u1_12 hc_X12_line_16 rfl) rfl
theorem dX12_line_29 : decode cX12_line 29 = .ok (.ifCond .ge 9, 3) := o_156 (u1_13 hc_X12_line_16 rfl) (s2_d (u2_d (u1_14 hc_X12_line_16 rfl) (u1_15 hc_X12_line_16 rfl) rfl) rfl) rfl
theorem hc_X12_line_32 : ((bL cX12_line).drop 32).take 18 = [42, 8, 182, 0, 233, 172, 42, 180, 0, 136, 27, 4, 84, 42, 180, 0, 126, 27] := by decide +kernel
theorem dX12_line_32 : decode cX12_line 32 = .ok (.aload_n 0, 1) := o_42 (u1_0 hc_X12_line_32 rfl) rfl
theorem dX12_line_33 : decode cX12_line 33 = .ok (.iconst 5, 1) := o_8 (u1_1 hc_X12_line_32 rfl) rfl
theorem dX12_line_34 : decode cX12_line 34 = .ok (.invokevirtual 233, 3) := o_182 (u1_2 hc_X12_line_32 rfl) (u2_d (u1_3 hc_X12_line_32 rfl) (u1_4 hc_X12_line_32 rfl) rfl) rfl
theorem dX12_line_37 : decode cX12_line 37 = .ok (.ireturn, 1) := o_172 (u1_5 hc_X12_line_32 rfl) rfl
theorem dX12_line_38 : decode cX12_line 38 = .ok (.aload_n 0, 1) := o_42 (u1_6 hc_X12_line_32 rfl) rfl
theorem dX12_line_39 : decode cX12_line 39 = .ok (.getfield 136, 3) := o_180 (u1_7 hc_X12_line_32 rfl) (u2_d (u1_8 hc_X12_line_32 rfl) (u1_9 hc_X12_line_32 rfl) rfl) rfl
theorem dX12_line_42 : decode cX12_line 42 = .ok (.iload_n 1, 1) := o_27 (u1_10 hc_X12_line_32 rfl) rfl
theorem dX12_line_43 : decode cX12_line 43 = .ok (.iconst 1, 1) := o_4 (u1_11 hc_X12_line_32 rfl) rfl
theorem dX12_line_44 : decode cX12_line 44 = .ok (.bastore, 1) := o_84 (u1_12 hc_X12_line_32 rfl) rfl
theorem dX12_line_45 : decode cX12_line 45 = .ok (.aload_n 0, 1) := o_42 (u1_13 hc_X12_line_32 rfl) rfl
theorem dX12_line_46 : decode cX12_line 46 = .ok (.getfield 126, 3) := o_180 (u1_14 hc_X12_line_32 rfl) (u2_d (u1_15 hc_X12_line_32 rfl) (u1_16 hc_X12_line_32 rfl) rfl) rfl
theorem hc_X12_line_48 : ((bL cX12_line).drop 48).take 18 = [126, 27, 28, 79, 42, 180, 0, 129, 27, 29, 79, 3, 54, 4, 21, 4, 16, 12] := by decide +kernel
theorem dX12_line_49 : decode cX12_line 49 = .ok (.iload_n 1, 1) := o_27 (u1_1 hc_X12_line_48 rfl) rfl
theorem dX12_line_50 : decode cX12_line 50 = .ok (.iload_n 2, 1) := o_28 (u1_2 hc_X12_line_48 rfl) rfl
theorem dX12_line_51 : decode cX12_line 51 = .ok (.iastore, 1) := o_79 (u1_3 hc_X12_line_48 rfl) rfl
theorem dX12_line_52 : decode cX12_line 52 = .ok (.aload_n 0, 1) := o_42 (u1_4 hc_X12_line_48 rfl) rfl
theorem dX12_line_53 : decode cX12_line 53 = .ok (.getfield 129, 3) := o_180 (u1_5 hc_X12_line_48 rfl) (u2_d (u1_6 hc_X12_line_48 rfl) (u1_7 hc_X12_line_48 rfl) rfl) rfl
theorem dX12_line_56 : decode cX12_line 56 = .ok (.iload_n 1, 1) := o_27 (u1_8 hc_X12_line_48 rfl) rfl
theorem dX12_line_57 : decode cX12_line 57 = .ok (.iload_n 3, 1) := o_29 (u1_9 hc_X12_line_48 rfl) rfl
theorem dX12_line_58 : decode cX12_line 58 = .ok (.iastore, 1) := o_79 (u1_10 hc_X12_line_48 rfl) rfl
theorem dX12_line_59 : decode cX12_line 59 = .ok (.iconst 0, 1) := o_3 (u1_11 hc_X12_line_48 rfl) rfl
theorem dX12_line_60 : decode cX12_line 60 = .ok (.istore 4, 2) := o_54 (u1_12 hc_X12_line_48 rfl) (u1_13 hc_X12_line_48 rfl) rfl
theorem dX12_line_62 : decode cX12_line 62 = .ok (.iload 4, 2) := o_21 (u1_14 hc_X12_line_48 rfl) (u1_15 hc_X12_line_48 rfl) rfl
theorem hc_X12_line_64 : ((bL cX12_line).drop 64).take 18 = [16, 12, 162, 0, 22, 42, 180, 0, 132, 16, 12, 27, 104, 21, 4, 96, 9, 80] := by decide +kernel
theorem dX12_line_64 : decode cX12_line 64 = .ok (.bipush 12, 2) := o_16 (u1_0 hc_X12_line_64 rfl) (s1_d (u1_1 hc_X12_line_64 rfl) rfl) rfl
theorem dX12_line_66 : decode cX12_line 66 = .ok (.if_icmp .ge 22, 3) := o_162 (u1_2 hc_X12_line_64 rfl) (s2_d (u2_d (u1_3 hc_X12_line_64 rfl) (u1_4 hc_X12_line_64 rfl) rfl) rfl) rfl
theorem dX12_line_69 : decode cX12_line 69 = .ok (.aload_n 0, 1) := o_42 (u1_5 hc_X12_line_64 rfl) rfl
theorem dX12_line_70 : decode cX12_line 70 = .ok (.getfield 132, 3) := o_180 (u1_6 hc_X12_line_64 rfl) (u2_d (u1_7 hc_X12_line_64 rfl) (u1_8 hc_X12_line_64 rfl) rfl) rfl
theorem dX12_line_73 : decode cX12_line 73 = .ok (.bipush 12, 2) := o_16 (u1_9 hc_X12_line_64 rfl) (s1_d (u1_10 hc_X12_line_64 rfl) rfl) rfl
theorem dX12_line_75 : decode cX12_line 75 = .ok (.iload_n 1, 1) := o_27 (u1_11 hc_X12_line_64 rfl) rfl
theorem dX12_line_76 : decode cX12_line 76 = .ok (.imul, 1) := o_104 (u1_12 hc_X12_line_64 rfl) rfl
theorem dX12_line_77 : decode cX12_line 77 = .ok (.iload 4, 2) := o_21 (u1_13 hc_X12_line_64 rfl) (u1_14 hc_X12_line_64 rfl) rfl
theorem dX12_line_79 : decode cX12_line 79 = .ok (.iadd, 1) := o_96 (u1_15 hc_X12_line_64 rfl) rfl
theorem hc_X12_line_80 : ((bL cX12_line).drop 80).take 18 = [9, 80, 132, 4, 1, 167, 255, 233, 29, 172] := by decide +kernel
theorem dX12_line_80 : decode cX12_line 80 = .ok (.lconst 0, 1) := o_9 (u1_0 hc_X12_line_80 rfl) rfl
theorem dX12_line_81 : decode cX12_line 81 = .ok (.lastore, 1) := o_80 (u1_1 hc_X12_line_80 rfl) rfl
theorem dX12_line_82 : decode cX12_line 82 = .ok (.iinc 4 1, 3) := o_132 (u1_2 hc_X12_line_80 rfl) (u1_3 hc_X12_line_80 rfl) (s1_d (u1_4 hc_X12_line_80 rfl) rfl) rfl
theorem dX12_line_85 : decode cX12_line 85 = .ok (.goto (-23), 3) := o_167 (u1_5 hc_X12_line_80 rfl) (s2_d (u2_d (u1_6 hc_X12_line_80 rfl) (u1_7 hc_X12_line_80 rfl) rfl) rfl) rfl
theorem dX12_line_88 : decode cX12_line 88 = .ok (.iload_n 3, 1) := o_29 (u1_8 hc_X12_line_80 rfl) rfl
theorem dX12_line_89 : decode cX12_line 89 = .ok (.ireturn, 1) := o_172 (u1_9 hc_X12_line_80 rfl) rfl
theorem hc_X12_lacks_0 : ((bL cX12_lacks).drop 0).take 18 = [42, 180, 0, 136, 27, 51, 154, 0, 7, 4, 167, 0, 40, 42, 180, 0, 126, 27] := by decide +kernel
theorem dX12_lacks_0 : decode cX12_lacks 0 = .ok (.aload_n 0, 1) := o_42 (u1_0 hc_X12_lacks_0 rfl) rfl
theorem dX12_lacks_1 : decode cX12_lacks 1 = .ok (.getfield 136, 3) := o_180 (u1_1 hc_X12_lacks_0 rfl) (u2_d (u1_2 hc_X12_lacks_0 rfl) (u1_3 hc_X12_lacks_0 rfl) rfl) rfl
theorem dX12_lacks_4 : decode cX12_lacks 4 = .ok (.iload_n 1, 1) := o_27 (u1_4 hc_X12_lacks_0 rfl) rfl
theorem dX12_lacks_5 : decode cX12_lacks 5 = .ok (.baload, 1) := o_51 (u1_5 hc_X12_lacks_0 rfl) rfl
theorem dX12_lacks_6 : decode cX12_lacks 6 = .ok (.ifCond .ne 7, 3) := o_154 (u1_6 hc_X12_lacks_0 rfl) (s2_d (u2_d (u1_7 hc_X12_lacks_0 rfl) (u1_8 hc_X12_lacks_0 rfl) rfl) rfl) rfl
theorem dX12_lacks_9 : decode cX12_lacks 9 = .ok (.iconst 1, 1) := o_4 (u1_9 hc_X12_lacks_0 rfl) rfl
theorem dX12_lacks_10 : decode cX12_lacks 10 = .ok (.goto 40, 3) := o_167 (u1_10 hc_X12_lacks_0 rfl) (s2_d (u2_d (u1_11 hc_X12_lacks_0 rfl) (u1_12 hc_X12_lacks_0 rfl) rfl) rfl) rfl
theorem dX12_lacks_13 : decode cX12_lacks 13 = .ok (.aload_n 0, 1) := o_42 (u1_13 hc_X12_lacks_0 rfl) rfl
theorem dX12_lacks_14 : decode cX12_lacks 14 = .ok (.getfield 126, 3) := o_180 (u1_14 hc_X12_lacks_0 rfl) (u2_d (u1_15 hc_X12_lacks_0 rfl) (u1_16 hc_X12_lacks_0 rfl) rfl) rfl
theorem hc_X12_lacks_16 : ((bL cX12_lacks).drop 16).take 18 = [126, 27, 46, 28, 159, 0, 7, 6, 167, 0, 26, 29, 133, 9, 42, 180, 0, 129] := by decide +kernel
theorem dX12_lacks_17 : decode cX12_lacks 17 = .ok (.iload_n 1, 1) := o_27 (u1_1 hc_X12_lacks_16 rfl) rfl
theorem dX12_lacks_18 : decode cX12_lacks 18 = .ok (.iaload, 1) := o_46 (u1_2 hc_X12_lacks_16 rfl) rfl
theorem dX12_lacks_19 : decode cX12_lacks 19 = .ok (.iload_n 2, 1) := o_28 (u1_3 hc_X12_lacks_16 rfl) rfl
theorem dX12_lacks_20 : decode cX12_lacks 20 = .ok (.if_icmp .eq 7, 3) := o_159 (u1_4 hc_X12_lacks_16 rfl) (s2_d (u2_d (u1_5 hc_X12_lacks_16 rfl) (u1_6 hc_X12_lacks_16 rfl) rfl) rfl) rfl
theorem dX12_lacks_23 : decode cX12_lacks 23 = .ok (.iconst 3, 1) := o_6 (u1_7 hc_X12_lacks_16 rfl) rfl
theorem dX12_lacks_24 : decode cX12_lacks 24 = .ok (.goto 26, 3) := o_167 (u1_8 hc_X12_lacks_16 rfl) (s2_d (u2_d (u1_9 hc_X12_lacks_16 rfl) (u1_10 hc_X12_lacks_16 rfl) rfl) rfl) rfl
theorem dX12_lacks_27 : decode cX12_lacks 27 = .ok (.iload_n 3, 1) := o_29 (u1_11 hc_X12_lacks_16 rfl) rfl
theorem dX12_lacks_28 : decode cX12_lacks 28 = .ok (.i2l, 1) := o_133 (u1_12 hc_X12_lacks_16 rfl) rfl
theorem dX12_lacks_29 : decode cX12_lacks 29 = .ok (.lconst 0, 1) := o_9 (u1_13 hc_X12_lacks_16 rfl) rfl
theorem dX12_lacks_30 : decode cX12_lacks 30 = .ok (.aload_n 0, 1) := o_42 (u1_14 hc_X12_lacks_16 rfl) rfl
theorem dX12_lacks_31 : decode cX12_lacks 31 = .ok (.getfield 129, 3) := o_180 (u1_15 hc_X12_lacks_16 rfl) (u2_d (u1_16 hc_X12_lacks_16 rfl) (u1_17 hc_X12_lacks_16 rfl) rfl) rfl
theorem hc_X12_lacks_32 : ((bL cX12_lacks).drop 32).take 18 = [0, 129, 27, 46, 4, 100, 133, 184, 0, 166, 154, 0, 7, 5, 167, 0, 4, 3] := by decide +kernel
theorem dX12_lacks_34 : decode cX12_lacks 34 = .ok (.iload_n 1, 1) := o_27 (u1_2 hc_X12_lacks_32 rfl) rfl
theorem dX12_lacks_35 : decode cX12_lacks 35 = .ok (.iaload, 1) := o_46 (u1_3 hc_X12_lacks_32 rfl) rfl
theorem dX12_lacks_36 : decode cX12_lacks 36 = .ok (.iconst 1, 1) := o_4 (u1_4 hc_X12_lacks_32 rfl) rfl
theorem dX12_lacks_37 : decode cX12_lacks 37 = .ok (.isub, 1) := o_100 (u1_5 hc_X12_lacks_32 rfl) rfl
theorem dX12_lacks_38 : decode cX12_lacks 38 = .ok (.i2l, 1) := o_133 (u1_6 hc_X12_lacks_32 rfl) rfl
theorem dX12_lacks_39 : decode cX12_lacks 39 = .ok (.invokestatic 166, 3) := o_184 (u1_7 hc_X12_lacks_32 rfl) (u2_d (u1_8 hc_X12_lacks_32 rfl) (u1_9 hc_X12_lacks_32 rfl) rfl) rfl
theorem dX12_lacks_42 : decode cX12_lacks 42 = .ok (.ifCond .ne 7, 3) := o_154 (u1_10 hc_X12_lacks_32 rfl) (s2_d (u2_d (u1_11 hc_X12_lacks_32 rfl) (u1_12 hc_X12_lacks_32 rfl) rfl) rfl) rfl
theorem dX12_lacks_45 : decode cX12_lacks 45 = .ok (.iconst 2, 1) := o_5 (u1_13 hc_X12_lacks_32 rfl) rfl
theorem dX12_lacks_46 : decode cX12_lacks 46 = .ok (.goto 4, 3) := o_167 (u1_14 hc_X12_lacks_32 rfl) (s2_d (u2_d (u1_15 hc_X12_lacks_32 rfl) (u1_16 hc_X12_lacks_32 rfl) rfl) rfl) rfl
theorem hc_X12_lacks_48 : ((bL cX12_lacks).drop 48).take 18 = [4, 3, 172] := by decide +kernel
theorem dX12_lacks_49 : decode cX12_lacks 49 = .ok (.iconst 0, 1) := o_3 (u1_1 hc_X12_lacks_48 rfl) rfl
theorem dX12_lacks_50 : decode cX12_lacks 50 = .ok (.ireturn, 1) := o_172 (u1_2 hc_X12_lacks_48 rfl) rfl
theorem hc_X12_cut_0 : ((bL cX12_cut).drop 0).take 18 = [26, 154, 0, 8, 31, 136, 145, 133, 173, 26, 4, 160, 0, 7, 31, 136, 133, 173] := by decide +kernel
theorem dX12_cut_0 : decode cX12_cut 0 = .ok (.iload_n 0, 1) := o_26 (u1_0 hc_X12_cut_0 rfl) rfl
theorem dX12_cut_1 : decode cX12_cut 1 = .ok (.ifCond .ne 8, 3) := o_154 (u1_1 hc_X12_cut_0 rfl) (s2_d (u2_d (u1_2 hc_X12_cut_0 rfl) (u1_3 hc_X12_cut_0 rfl) rfl) rfl) rfl
theorem dX12_cut_4 : decode cX12_cut 4 = .ok (.lload_n 1, 1) := o_31 (u1_4 hc_X12_cut_0 rfl) rfl
theorem dX12_cut_5 : decode cX12_cut 5 = .ok (.l2i, 1) := o_136 (u1_5 hc_X12_cut_0 rfl) rfl
theorem dX12_cut_6 : decode cX12_cut 6 = .ok (.i2b, 1) := o_145 (u1_6 hc_X12_cut_0 rfl) rfl
theorem dX12_cut_7 : decode cX12_cut 7 = .ok (.i2l, 1) := o_133 (u1_7 hc_X12_cut_0 rfl) rfl
theorem dX12_cut_8 : decode cX12_cut 8 = .ok (.lreturn, 1) := o_173 (u1_8 hc_X12_cut_0 rfl) rfl
theorem dX12_cut_9 : decode cX12_cut 9 = .ok (.iload_n 0, 1) := o_26 (u1_9 hc_X12_cut_0 rfl) rfl
theorem dX12_cut_10 : decode cX12_cut 10 = .ok (.iconst 1, 1) := o_4 (u1_10 hc_X12_cut_0 rfl) rfl
theorem dX12_cut_11 : decode cX12_cut 11 = .ok (.if_icmp .ne 7, 3) := o_160 (u1_11 hc_X12_cut_0 rfl) (s2_d (u2_d (u1_12 hc_X12_cut_0 rfl) (u1_13 hc_X12_cut_0 rfl) rfl) rfl) rfl
theorem dX12_cut_14 : decode cX12_cut 14 = .ok (.lload_n 1, 1) := o_31 (u1_14 hc_X12_cut_0 rfl) rfl
theorem dX12_cut_15 : decode cX12_cut 15 = .ok (.l2i, 1) := o_136 (u1_15 hc_X12_cut_0 rfl) rfl
theorem hc_X12_cut_16 : ((bL cX12_cut).drop 16).take 18 = [133, 173, 26, 5, 160, 0, 26, 31, 136, 62, 29, 19, 1, 183, 126, 19, 1, 184] := by decide +kernel
theorem dX12_cut_16 : decode cX12_cut 16 = .ok (.i2l, 1) := o_133 (u1_0 hc_X12_cut_16 rfl) rfl
theorem dX12_cut_17 : decode cX12_cut 17 = .ok (.lreturn, 1) := o_173 (u1_1 hc_X12_cut_16 rfl) rfl
theorem dX12_cut_18 : decode cX12_cut 18 = .ok (.iload_n 0, 1) := o_26 (u1_2 hc_X12_cut_16 rfl) rfl
theorem dX12_cut_19 : decode cX12_cut 19 = .ok (.iconst 2, 1) := o_5 (u1_3 hc_X12_cut_16 rfl) rfl
theorem dX12_cut_20 : decode cX12_cut 20 = .ok (.if_icmp .ne 26, 3) := o_160 (u1_4 hc_X12_cut_16 rfl) (s2_d (u2_d (u1_5 hc_X12_cut_16 rfl) (u1_6 hc_X12_cut_16 rfl) rfl) rfl) rfl
theorem dX12_cut_23 : decode cX12_cut 23 = .ok (.lload_n 1, 1) := o_31 (u1_7 hc_X12_cut_16 rfl) rfl
theorem dX12_cut_24 : decode cX12_cut 24 = .ok (.l2i, 1) := o_136 (u1_8 hc_X12_cut_16 rfl) rfl
theorem dX12_cut_25 : decode cX12_cut 25 = .ok (.istore_n 3, 1) := o_62 (u1_9 hc_X12_cut_16 rfl) rfl
theorem dX12_cut_26 : decode cX12_cut 26 = .ok (.iload_n 3, 1) := o_29 (u1_10 hc_X12_cut_16 rfl) rfl
theorem dX12_cut_27 : decode cX12_cut 27 = .ok (.ldc_w 439, 3) := o_19 (u1_11 hc_X12_cut_16 rfl) (u2_d (u1_12 hc_X12_cut_16 rfl) (u1_13 hc_X12_cut_16 rfl) rfl) rfl
theorem dX12_cut_30 : decode cX12_cut 30 = .ok (.iand, 1) := o_126 (u1_14 hc_X12_cut_16 rfl) rfl
theorem dX12_cut_31 : decode cX12_cut 31 = .ok (.ldc_w 440, 3) := o_19 (u1_15 hc_X12_cut_16 rfl) (u2_d (u1_16 hc_X12_cut_16 rfl) (u1_17 hc_X12_cut_16 rfl) rfl) rfl
theorem hc_X12_cut_32 : ((bL cX12_cut).drop 32).take 18 = [1, 184, 164, 0, 9, 20, 1, 185, 167, 0, 5, 29, 133, 173, 31, 173] := by decide +kernel
theorem dX12_cut_34 : decode cX12_cut 34 = .ok (.if_icmp .le 9, 3) := o_164 (u1_2 hc_X12_cut_32 rfl) (s2_d (u2_d (u1_3 hc_X12_cut_32 rfl) (u1_4 hc_X12_cut_32 rfl) rfl) rfl) rfl
theorem dX12_cut_37 : decode cX12_cut 37 = .ok (.ldc2_w 441, 3) := o_20 (u1_5 hc_X12_cut_32 rfl) (u2_d (u1_6 hc_X12_cut_32 rfl) (u1_7 hc_X12_cut_32 rfl) rfl) rfl
theorem dX12_cut_40 : decode cX12_cut 40 = .ok (.goto 5, 3) := o_167 (u1_8 hc_X12_cut_32 rfl) (s2_d (u2_d (u1_9 hc_X12_cut_32 rfl) (u1_10 hc_X12_cut_32 rfl) rfl) rfl) rfl
theorem dX12_cut_43 : decode cX12_cut 43 = .ok (.iload_n 3, 1) := o_29 (u1_11 hc_X12_cut_32 rfl) rfl
theorem dX12_cut_44 : decode cX12_cut 44 = .ok (.i2l, 1) := o_133 (u1_12 hc_X12_cut_32 rfl) rfl
theorem dX12_cut_45 : decode cX12_cut 45 = .ok (.lreturn, 1) := o_173 (u1_13 hc_X12_cut_32 rfl) rfl
theorem dX12_cut_46 : decode cX12_cut 46 = .ok (.lload_n 1, 1) := o_31 (u1_14 hc_X12_cut_32 rfl) rfl
theorem dX12_cut_47 : decode cX12_cut 47 = .ok (.lreturn, 1) := o_173 (u1_15 hc_X12_cut_32 rfl) rfl
theorem hc_X12_put_0 : ((bL cX12_put).drop 0).take 18 = [42, 27, 182, 0, 180, 153, 0, 15, 28, 133, 9, 20, 1, 23, 184, 0, 166, 154] := by decide +kernel
theorem dX12_put_0 : decode cX12_put 0 = .ok (.aload_n 0, 1) := o_42 (u1_0 hc_X12_put_0 rfl) rfl
theorem dX12_put_1 : decode cX12_put 1 = .ok (.iload_n 1, 1) := o_27 (u1_1 hc_X12_put_0 rfl) rfl
theorem dX12_put_2 : decode cX12_put 2 = .ok (.invokevirtual 180, 3) := o_182 (u1_2 hc_X12_put_0 rfl) (u2_d (u1_3 hc_X12_put_0 rfl) (u1_4 hc_X12_put_0 rfl) rfl) rfl
theorem dX12_put_5 : decode cX12_put 5 = .ok (.ifCond .eq 15, 3) := o_153 (u1_5 hc_X12_put_0 rfl) (s2_d (u2_d (u1_6 hc_X12_put_0 rfl) (u1_7 hc_X12_put_0 rfl) rfl) rfl) rfl
theorem dX12_put_8 : decode cX12_put 8 = .ok (.iload_n 2, 1) := o_28 (u1_8 hc_X12_put_0 rfl) rfl
theorem dX12_put_9 : decode cX12_put 9 = .ok (.i2l, 1) := o_133 (u1_9 hc_X12_put_0 rfl) rfl
theorem dX12_put_10 : decode cX12_put 10 = .ok (.lconst 0, 1) := o_9 (u1_10 hc_X12_put_0 rfl) rfl
theorem dX12_put_11 : decode cX12_put 11 = .ok (.ldc2_w 279, 3) := o_20 (u1_11 hc_X12_put_0 rfl) (u2_d (u1_12 hc_X12_put_0 rfl) (u1_13 hc_X12_put_0 rfl) rfl) rfl
theorem dX12_put_14 : decode cX12_put 14 = .ok (.invokestatic 166, 3) := o_184 (u1_14 hc_X12_put_0 rfl) (u2_d (u1_15 hc_X12_put_0 rfl) (u1_16 hc_X12_put_0 rfl) rfl) rfl
theorem hc_X12_put_16 : ((bL cX12_put).drop 16).take 18 = [166, 154, 0, 5, 2, 172, 42, 27, 28, 29, 182, 1, 187, 54, 6, 21, 6, 158] := by decide +kernel
theorem dX12_put_17 : decode cX12_put 17 = .ok (.ifCond .ne 5, 3) := o_154 (u1_1 hc_X12_put_16 rfl) (s2_d (u2_d (u1_2 hc_X12_put_16 rfl) (u1_3 hc_X12_put_16 rfl) rfl) rfl) rfl
theorem dX12_put_20 : decode cX12_put 20 = .ok (.iconst (-1), 1) := o_2 (u1_4 hc_X12_put_16 rfl) rfl
theorem dX12_put_21 : decode cX12_put 21 = .ok (.ireturn, 1) := o_172 (u1_5 hc_X12_put_16 rfl) rfl
theorem dX12_put_22 : decode cX12_put 22 = .ok (.aload_n 0, 1) := o_42 (u1_6 hc_X12_put_16 rfl) rfl
theorem dX12_put_23 : decode cX12_put 23 = .ok (.iload_n 1, 1) := o_27 (u1_7 hc_X12_put_16 rfl) rfl
theorem dX12_put_24 : decode cX12_put 24 = .ok (.iload_n 2, 1) := o_28 (u1_8 hc_X12_put_16 rfl) rfl
theorem dX12_put_25 : decode cX12_put 25 = .ok (.iload_n 3, 1) := o_29 (u1_9 hc_X12_put_16 rfl) rfl
theorem dX12_put_26 : decode cX12_put 26 = .ok (.invokevirtual 443, 3) := o_182 (u1_10 hc_X12_put_16 rfl) (u2_d (u1_11 hc_X12_put_16 rfl) (u1_12 hc_X12_put_16 rfl) rfl) rfl
theorem dX12_put_29 : decode cX12_put 29 = .ok (.istore 6, 2) := o_54 (u1_13 hc_X12_put_16 rfl) (u1_14 hc_X12_put_16 rfl) rfl
theorem dX12_put_31 : decode cX12_put 31 = .ok (.iload 6, 2) := o_21 (u1_15 hc_X12_put_16 rfl) (u1_16 hc_X12_put_16 rfl) rfl
theorem hc_X12_put_32 : ((bL cX12_put).drop 32).take 18 = [6, 158, 0, 10, 42, 21, 6, 182, 0, 233, 172, 42, 180, 0, 132, 16, 12, 27] := by decide +kernel
theorem dX12_put_33 : decode cX12_put 33 = .ok (.ifCond .le 10, 3) := o_158 (u1_1 hc_X12_put_32 rfl) (s2_d (u2_d (u1_2 hc_X12_put_32 rfl) (u1_3 hc_X12_put_32 rfl) rfl) rfl) rfl
theorem dX12_put_36 : decode cX12_put 36 = .ok (.aload_n 0, 1) := o_42 (u1_4 hc_X12_put_32 rfl) rfl
theorem dX12_put_37 : decode cX12_put 37 = .ok (.iload 6, 2) := o_21 (u1_5 hc_X12_put_32 rfl) (u1_6 hc_X12_put_32 rfl) rfl
theorem dX12_put_39 : decode cX12_put 39 = .ok (.invokevirtual 233, 3) := o_182 (u1_7 hc_X12_put_32 rfl) (u2_d (u1_8 hc_X12_put_32 rfl) (u1_9 hc_X12_put_32 rfl) rfl) rfl
theorem dX12_put_42 : decode cX12_put 42 = .ok (.ireturn, 1) := o_172 (u1_10 hc_X12_put_32 rfl) rfl
theorem dX12_put_43 : decode cX12_put 43 = .ok (.aload_n 0, 1) := o_42 (u1_11 hc_X12_put_32 rfl) rfl
theorem dX12_put_44 : decode cX12_put 44 = .ok (.getfield 132, 3) := o_180 (u1_12 hc_X12_put_32 rfl) (u2_d (u1_13 hc_X12_put_32 rfl) (u1_14 hc_X12_put_32 rfl) rfl) rfl
theorem dX12_put_47 : decode cX12_put 47 = .ok (.bipush 12, 2) := o_16 (u1_15 hc_X12_put_32 rfl) (s1_d (u1_16 hc_X12_put_32 rfl) rfl) rfl
theorem hc_X12_put_48 : ((bL cX12_put).drop 48).take 18 = [12, 27, 104, 29, 96, 28, 22, 4, 184, 1, 190, 80, 4, 172] := by decide +kernel
theorem dX12_put_49 : decode cX12_put 49 = .ok (.iload_n 1, 1) := o_27 (u1_1 hc_X12_put_48 rfl) rfl
theorem dX12_put_50 : decode cX12_put 50 = .ok (.imul, 1) := o_104 (u1_2 hc_X12_put_48 rfl) rfl
theorem dX12_put_51 : decode cX12_put 51 = .ok (.iload_n 3, 1) := o_29 (u1_3 hc_X12_put_48 rfl) rfl
theorem dX12_put_52 : decode cX12_put 52 = .ok (.iadd, 1) := o_96 (u1_4 hc_X12_put_48 rfl) rfl
theorem dX12_put_53 : decode cX12_put 53 = .ok (.iload_n 2, 1) := o_28 (u1_5 hc_X12_put_48 rfl) rfl
theorem dX12_put_54 : decode cX12_put 54 = .ok (.lload 4, 2) := o_22 (u1_6 hc_X12_put_48 rfl) (u1_7 hc_X12_put_48 rfl) rfl
theorem dX12_put_56 : decode cX12_put 56 = .ok (.invokestatic 446, 3) := o_184 (u1_8 hc_X12_put_48 rfl) (u2_d (u1_9 hc_X12_put_48 rfl) (u1_10 hc_X12_put_48 rfl) rfl) rfl
theorem dX12_put_59 : decode cX12_put 59 = .ok (.lastore, 1) := o_80 (u1_11 hc_X12_put_48 rfl) rfl
theorem dX12_put_60 : decode cX12_put 60 = .ok (.iconst 1, 1) := o_4 (u1_12 hc_X12_put_48 rfl) rfl
theorem dX12_put_61 : decode cX12_put 61 = .ok (.ireturn, 1) := o_172 (u1_13 hc_X12_put_48 rfl) rfl
theorem hc_X12_item_0 : ((bL cX12_item).drop 0).take 18 = [42, 27, 182, 0, 180, 153, 0, 15, 28, 133, 9, 20, 1, 23, 184, 0, 166, 154] := by decide +kernel
theorem dX12_item_0 : decode cX12_item 0 = .ok (.aload_n 0, 1) := o_42 (u1_0 hc_X12_item_0 rfl) rfl
theorem dX12_item_1 : decode cX12_item 1 = .ok (.iload_n 1, 1) := o_27 (u1_1 hc_X12_item_0 rfl) rfl
theorem dX12_item_2 : decode cX12_item 2 = .ok (.invokevirtual 180, 3) := o_182 (u1_2 hc_X12_item_0 rfl) (u2_d (u1_3 hc_X12_item_0 rfl) (u1_4 hc_X12_item_0 rfl) rfl) rfl
theorem dX12_item_5 : decode cX12_item 5 = .ok (.ifCond .eq 15, 3) := o_153 (u1_5 hc_X12_item_0 rfl) (s2_d (u2_d (u1_6 hc_X12_item_0 rfl) (u1_7 hc_X12_item_0 rfl) rfl) rfl) rfl
theorem dX12_item_8 : decode cX12_item 8 = .ok (.iload_n 2, 1) := o_28 (u1_8 hc_X12_item_0 rfl) rfl
theorem dX12_item_9 : decode cX12_item 9 = .ok (.i2l, 1) := o_133 (u1_9 hc_X12_item_0 rfl) rfl
theorem dX12_item_10 : decode cX12_item 10 = .ok (.lconst 0, 1) := o_9 (u1_10 hc_X12_item_0 rfl) rfl
theorem dX12_item_11 : decode cX12_item 11 = .ok (.ldc2_w 279, 3) := o_20 (u1_11 hc_X12_item_0 rfl) (u2_d (u1_12 hc_X12_item_0 rfl) (u1_13 hc_X12_item_0 rfl) rfl) rfl
theorem dX12_item_14 : decode cX12_item 14 = .ok (.invokestatic 166, 3) := o_184 (u1_14 hc_X12_item_0 rfl) (u2_d (u1_15 hc_X12_item_0 rfl) (u1_16 hc_X12_item_0 rfl) rfl) rfl
theorem hc_X12_item_16 : ((bL cX12_item).drop 16).take 18 = [166, 154, 0, 5, 2, 172, 42, 27, 28, 29, 182, 1, 187, 54, 4, 21, 4, 158] := by decide +kernel
theorem dX12_item_17 : decode cX12_item 17 = .ok (.ifCond .ne 5, 3) := o_154 (u1_1 hc_X12_item_16 rfl) (s2_d (u2_d (u1_2 hc_X12_item_16 rfl) (u1_3 hc_X12_item_16 rfl) rfl) rfl) rfl
theorem dX12_item_20 : decode cX12_item 20 = .ok (.iconst (-1), 1) := o_2 (u1_4 hc_X12_item_16 rfl) rfl
theorem dX12_item_21 : decode cX12_item 21 = .ok (.ireturn, 1) := o_172 (u1_5 hc_X12_item_16 rfl) rfl
theorem dX12_item_22 : decode cX12_item 22 = .ok (.aload_n 0, 1) := o_42 (u1_6 hc_X12_item_16 rfl) rfl
theorem dX12_item_23 : decode cX12_item 23 = .ok (.iload_n 1, 1) := o_27 (u1_7 hc_X12_item_16 rfl) rfl
theorem dX12_item_24 : decode cX12_item 24 = .ok (.iload_n 2, 1) := o_28 (u1_8 hc_X12_item_16 rfl) rfl
theorem dX12_item_25 : decode cX12_item 25 = .ok (.iload_n 3, 1) := o_29 (u1_9 hc_X12_item_16 rfl) rfl
theorem dX12_item_26 : decode cX12_item 26 = .ok (.invokevirtual 443, 3) := o_182 (u1_10 hc_X12_item_16 rfl) (u2_d (u1_11 hc_X12_item_16 rfl) (u1_12 hc_X12_item_16 rfl) rfl) rfl
theorem dX12_item_29 : decode cX12_item 29 = .ok (.istore 4, 2) := o_54 (u1_13 hc_X12_item_16 rfl) (u1_14 hc_X12_item_16 rfl) rfl
theorem dX12_item_31 : decode cX12_item 31 = .ok (.iload 4, 2) := o_21 (u1_15 hc_X12_item_16 rfl) (u1_16 hc_X12_item_16 rfl) rfl
theorem hc_X12_item_32 : ((bL cX12_item).drop 32).take 18 = [4, 158, 0, 10, 42, 21, 4, 182, 0, 233, 172, 42, 42, 180, 0, 132, 16, 12] := by decide +kernel
theorem dX12_item_33 : decode cX12_item 33 = .ok (.ifCond .le 10, 3) := o_158 (u1_1 hc_X12_item_32 rfl) (s2_d (u2_d (u1_2 hc_X12_item_32 rfl) (u1_3 hc_X12_item_32 rfl) rfl) rfl) rfl
theorem dX12_item_36 : decode cX12_item 36 = .ok (.aload_n 0, 1) := o_42 (u1_4 hc_X12_item_32 rfl) rfl
theorem dX12_item_37 : decode cX12_item 37 = .ok (.iload 4, 2) := o_21 (u1_5 hc_X12_item_32 rfl) (u1_6 hc_X12_item_32 rfl) rfl
theorem dX12_item_39 : decode cX12_item 39 = .ok (.invokevirtual 233, 3) := o_182 (u1_7 hc_X12_item_32 rfl) (u2_d (u1_8 hc_X12_item_32 rfl) (u1_9 hc_X12_item_32 rfl) rfl) rfl
theorem dX12_item_42 : decode cX12_item 42 = .ok (.ireturn, 1) := o_172 (u1_10 hc_X12_item_32 rfl) rfl
theorem dX12_item_43 : decode cX12_item 43 = .ok (.aload_n 0, 1) := o_42 (u1_11 hc_X12_item_32 rfl) rfl
theorem dX12_item_44 : decode cX12_item 44 = .ok (.aload_n 0, 1) := o_42 (u1_12 hc_X12_item_32 rfl) rfl
theorem dX12_item_45 : decode cX12_item 45 = .ok (.getfield 132, 3) := o_180 (u1_13 hc_X12_item_32 rfl) (u2_d (u1_14 hc_X12_item_32 rfl) (u1_15 hc_X12_item_32 rfl) rfl) rfl
theorem hc_X12_item_48 : ((bL cX12_item).drop 48).take 18 = [16, 12, 27, 104, 29, 96, 47, 181, 1, 62, 4, 172] := by decide +kernel
theorem dX12_item_48 : decode cX12_item 48 = .ok (.bipush 12, 2) := o_16 (u1_0 hc_X12_item_48 rfl) (s1_d (u1_1 hc_X12_item_48 rfl) rfl) rfl
theorem dX12_item_50 : decode cX12_item 50 = .ok (.iload_n 1, 1) := o_27 (u1_2 hc_X12_item_48 rfl) rfl
theorem dX12_item_51 : decode cX12_item 51 = .ok (.imul, 1) := o_104 (u1_3 hc_X12_item_48 rfl) rfl
theorem dX12_item_52 : decode cX12_item 52 = .ok (.iload_n 3, 1) := o_29 (u1_4 hc_X12_item_48 rfl) rfl
theorem dX12_item_53 : decode cX12_item 53 = .ok (.iadd, 1) := o_96 (u1_5 hc_X12_item_48 rfl) rfl
theorem dX12_item_54 : decode cX12_item 54 = .ok (.laload, 1) := o_47 (u1_6 hc_X12_item_48 rfl) rfl
theorem dX12_item_55 : decode cX12_item 55 = .ok (.putfield 318, 3) := o_181 (u1_7 hc_X12_item_48 rfl) (u2_d (u1_8 hc_X12_item_48 rfl) (u1_9 hc_X12_item_48 rfl) rfl) rfl
theorem dX12_item_58 : decode cX12_item 58 = .ok (.iconst 1, 1) := o_4 (u1_10 hc_X12_item_48 rfl) rfl
theorem dX12_item_59 : decode cX12_item 59 = .ok (.ireturn, 1) := o_172 (u1_11 hc_X12_item_48 rfl) rfl
theorem hc_X12_copy_0 : ((bL cX12_copy).drop 0).take 18 = [42, 27, 182, 0, 180, 153, 0, 24, 42, 21, 4, 182, 0, 180, 153, 0, 15, 28] := by decide +kernel
theorem dX12_copy_0 : decode cX12_copy 0 = .ok (.aload_n 0, 1) := o_42 (u1_0 hc_X12_copy_0 rfl) rfl
theorem dX12_copy_1 : decode cX12_copy 1 = .ok (.iload_n 1, 1) := o_27 (u1_1 hc_X12_copy_0 rfl) rfl
theorem dX12_copy_2 : decode cX12_copy 2 = .ok (.invokevirtual 180, 3) := o_182 (u1_2 hc_X12_copy_0 rfl) (u2_d (u1_3 hc_X12_copy_0 rfl) (u1_4 hc_X12_copy_0 rfl) rfl) rfl
theorem dX12_copy_5 : decode cX12_copy 5 = .ok (.ifCond .eq 24, 3) := o_153 (u1_5 hc_X12_copy_0 rfl) (s2_d (u2_d (u1_6 hc_X12_copy_0 rfl) (u1_7 hc_X12_copy_0 rfl) rfl) rfl) rfl
theorem dX12_copy_8 : decode cX12_copy 8 = .ok (.aload_n 0, 1) := o_42 (u1_8 hc_X12_copy_0 rfl) rfl
theorem dX12_copy_9 : decode cX12_copy 9 = .ok (.iload 4, 2) := o_21 (u1_9 hc_X12_copy_0 rfl) (u1_10 hc_X12_copy_0 rfl) rfl
theorem dX12_copy_11 : decode cX12_copy 11 = .ok (.invokevirtual 180, 3) := o_182 (u1_11 hc_X12_copy_0 rfl) (u2_d (u1_12 hc_X12_copy_0 rfl) (u1_13 hc_X12_copy_0 rfl) rfl) rfl
theorem dX12_copy_14 : decode cX12_copy 14 = .ok (.ifCond .eq 15, 3) := o_153 (u1_14 hc_X12_copy_0 rfl) (s2_d (u2_d (u1_15 hc_X12_copy_0 rfl) (u1_16 hc_X12_copy_0 rfl) rfl) rfl) rfl
theorem hc_X12_copy_16 : ((bL cX12_copy).drop 16).take 18 = [15, 28, 133, 9, 20, 1, 23, 184, 0, 166, 154, 0, 5, 2, 172, 42, 180, 0] := by decide +kernel
theorem dX12_copy_17 : decode cX12_copy 17 = .ok (.iload_n 2, 1) := o_28 (u1_1 hc_X12_copy_16 rfl) rfl
theorem dX12_copy_18 : decode cX12_copy 18 = .ok (.i2l, 1) := o_133 (u1_2 hc_X12_copy_16 rfl) rfl
theorem dX12_copy_19 : decode cX12_copy 19 = .ok (.lconst 0, 1) := o_9 (u1_3 hc_X12_copy_16 rfl) rfl
theorem dX12_copy_20 : decode cX12_copy 20 = .ok (.ldc2_w 279, 3) := o_20 (u1_4 hc_X12_copy_16 rfl) (u2_d (u1_5 hc_X12_copy_16 rfl) (u1_6 hc_X12_copy_16 rfl) rfl) rfl
theorem dX12_copy_23 : decode cX12_copy 23 = .ok (.invokestatic 166, 3) := o_184 (u1_7 hc_X12_copy_16 rfl) (u2_d (u1_8 hc_X12_copy_16 rfl) (u1_9 hc_X12_copy_16 rfl) rfl) rfl
theorem dX12_copy_26 : decode cX12_copy 26 = .ok (.ifCond .ne 5, 3) := o_154 (u1_10 hc_X12_copy_16 rfl) (s2_d (u2_d (u1_11 hc_X12_copy_16 rfl) (u1_12 hc_X12_copy_16 rfl) rfl) rfl) rfl
theorem dX12_copy_29 : decode cX12_copy 29 = .ok (.iconst (-1), 1) := o_2 (u1_13 hc_X12_copy_16 rfl) rfl
theorem dX12_copy_30 : decode cX12_copy 30 = .ok (.ireturn, 1) := o_172 (u1_14 hc_X12_copy_16 rfl) rfl
theorem dX12_copy_31 : decode cX12_copy 31 = .ok (.aload_n 0, 1) := o_42 (u1_15 hc_X12_copy_16 rfl) rfl
theorem hc_X12_copy_32 : ((bL cX12_copy).drop 32).take 18 = [180, 0, 136, 27, 51, 153, 0, 13, 42, 180, 0, 126, 27, 46, 28, 160, 0, 24] := by decide +kernel
theorem dX12_copy_32 : decode cX12_copy 32 = .ok (.getfield 136, 3) := o_180 (u1_0 hc_X12_copy_32 rfl) (u2_d (u1_1 hc_X12_copy_32 rfl) (u1_2 hc_X12_copy_32 rfl) rfl) rfl
theorem dX12_copy_35 : decode cX12_copy 35 = .ok (.iload_n 1, 1) := o_27 (u1_3 hc_X12_copy_32 rfl) rfl
theorem dX12_copy_36 : decode cX12_copy 36 = .ok (.baload, 1) := o_51 (u1_4 hc_X12_copy_32 rfl) rfl
theorem dX12_copy_37 : decode cX12_copy 37 = .ok (.ifCond .eq 13, 3) := o_153 (u1_5 hc_X12_copy_32 rfl) (s2_d (u2_d (u1_6 hc_X12_copy_32 rfl) (u1_7 hc_X12_copy_32 rfl) rfl) rfl) rfl
theorem dX12_copy_40 : decode cX12_copy 40 = .ok (.aload_n 0, 1) := o_42 (u1_8 hc_X12_copy_32 rfl) rfl
theorem dX12_copy_41 : decode cX12_copy 41 = .ok (.getfield 126, 3) := o_180 (u1_9 hc_X12_copy_32 rfl) (u2_d (u1_10 hc_X12_copy_32 rfl) (u1_11 hc_X12_copy_32 rfl) rfl) rfl
theorem dX12_copy_44 : decode cX12_copy 44 = .ok (.iload_n 1, 1) := o_27 (u1_12 hc_X12_copy_32 rfl) rfl
theorem dX12_copy_45 : decode cX12_copy 45 = .ok (.iaload, 1) := o_46 (u1_13 hc_X12_copy_32 rfl) rfl
theorem dX12_copy_46 : decode cX12_copy 46 = .ok (.iload_n 2, 1) := o_28 (u1_14 hc_X12_copy_32 rfl) rfl
theorem dX12_copy_47 : decode cX12_copy 47 = .ok (.if_icmp .ne 24, 3) := o_160 (u1_15 hc_X12_copy_32 rfl) (s2_d (u2_d (u1_16 hc_X12_copy_32 rfl) (u1_17 hc_X12_copy_32 rfl) rfl) rfl) rfl
theorem hc_X12_copy_48 : ((bL cX12_copy).drop 48).take 18 = [0, 24, 42, 180, 0, 136, 21, 4, 51, 153, 0, 20, 42, 180, 0, 126, 21, 4] := by decide +kernel
theorem dX12_copy_50 : decode cX12_copy 50 = .ok (.aload_n 0, 1) := o_42 (u1_2 hc_X12_copy_48 rfl) rfl
theorem dX12_copy_51 : decode cX12_copy 51 = .ok (.getfield 136, 3) := o_180 (u1_3 hc_X12_copy_48 rfl) (u2_d (u1_4 hc_X12_copy_48 rfl) (u1_5 hc_X12_copy_48 rfl) rfl) rfl
theorem dX12_copy_54 : decode cX12_copy 54 = .ok (.iload 4, 2) := o_21 (u1_6 hc_X12_copy_48 rfl) (u1_7 hc_X12_copy_48 rfl) rfl
theorem dX12_copy_56 : decode cX12_copy 56 = .ok (.baload, 1) := o_51 (u1_8 hc_X12_copy_48 rfl) rfl
theorem dX12_copy_57 : decode cX12_copy 57 = .ok (.ifCond .eq 20, 3) := o_153 (u1_9 hc_X12_copy_48 rfl) (s2_d (u2_d (u1_10 hc_X12_copy_48 rfl) (u1_11 hc_X12_copy_48 rfl) rfl) rfl) rfl
theorem dX12_copy_60 : decode cX12_copy 60 = .ok (.aload_n 0, 1) := o_42 (u1_12 hc_X12_copy_48 rfl) rfl
theorem dX12_copy_61 : decode cX12_copy 61 = .ok (.getfield 126, 3) := o_180 (u1_13 hc_X12_copy_48 rfl) (u2_d (u1_14 hc_X12_copy_48 rfl) (u1_15 hc_X12_copy_48 rfl) rfl) rfl
theorem hc_X12_copy_64 : ((bL cX12_copy).drop 64).take 18 = [21, 4, 46, 28, 159, 0, 9, 42, 6, 182, 0, 233, 172, 42, 180, 0, 136, 27] := by decide +kernel
theorem dX12_copy_64 : decode cX12_copy 64 = .ok (.iload 4, 2) := o_21 (u1_0 hc_X12_copy_64 rfl) (u1_1 hc_X12_copy_64 rfl) rfl
theorem dX12_copy_66 : decode cX12_copy 66 = .ok (.iaload, 1) := o_46 (u1_2 hc_X12_copy_64 rfl) rfl
theorem dX12_copy_67 : decode cX12_copy 67 = .ok (.iload_n 2, 1) := o_28 (u1_3 hc_X12_copy_64 rfl) rfl
theorem dX12_copy_68 : decode cX12_copy 68 = .ok (.if_icmp .eq 9, 3) := o_159 (u1_4 hc_X12_copy_64 rfl) (s2_d (u2_d (u1_5 hc_X12_copy_64 rfl) (u1_6 hc_X12_copy_64 rfl) rfl) rfl) rfl
theorem dX12_copy_71 : decode cX12_copy 71 = .ok (.aload_n 0, 1) := o_42 (u1_7 hc_X12_copy_64 rfl) rfl
theorem dX12_copy_72 : decode cX12_copy 72 = .ok (.iconst 3, 1) := o_6 (u1_8 hc_X12_copy_64 rfl) rfl
theorem dX12_copy_73 : decode cX12_copy 73 = .ok (.invokevirtual 233, 3) := o_182 (u1_9 hc_X12_copy_64 rfl) (u2_d (u1_10 hc_X12_copy_64 rfl) (u1_11 hc_X12_copy_64 rfl) rfl) rfl
theorem dX12_copy_76 : decode cX12_copy 76 = .ok (.ireturn, 1) := o_172 (u1_12 hc_X12_copy_64 rfl) rfl
theorem dX12_copy_77 : decode cX12_copy 77 = .ok (.aload_n 0, 1) := o_42 (u1_13 hc_X12_copy_64 rfl) rfl
theorem dX12_copy_78 : decode cX12_copy 78 = .ok (.getfield 136, 3) := o_180 (u1_14 hc_X12_copy_64 rfl) (u2_d (u1_15 hc_X12_copy_64 rfl) (u1_16 hc_X12_copy_64 rfl) rfl) rfl
theorem hc_X12_copy_80 : ((bL cX12_copy).drop 80).take 18 = [136, 27, 51, 153, 0, 13, 42, 180, 0, 136, 21, 4, 51, 154, 0, 9, 42, 4] := by decide +kernel
theorem dX12_copy_81 : decode cX12_copy 81 = .ok (.iload_n 1, 1) := o_27 (u1_1 hc_X12_copy_80 rfl) rfl
theorem dX12_copy_82 : decode cX12_copy 82 = .ok (.baload, 1) := o_51 (u1_2 hc_X12_copy_80 rfl) rfl
theorem dX12_copy_83 : decode cX12_copy 83 = .ok (.ifCond .eq 13, 3) := o_153 (u1_3 hc_X12_copy_80 rfl) (s2_d (u2_d (u1_4 hc_X12_copy_80 rfl) (u1_5 hc_X12_copy_80 rfl) rfl) rfl) rfl
theorem dX12_copy_86 : decode cX12_copy 86 = .ok (.aload_n 0, 1) := o_42 (u1_6 hc_X12_copy_80 rfl) rfl
theorem dX12_copy_87 : decode cX12_copy 87 = .ok (.getfield 136, 3) := o_180 (u1_7 hc_X12_copy_80 rfl) (u2_d (u1_8 hc_X12_copy_80 rfl) (u1_9 hc_X12_copy_80 rfl) rfl) rfl
theorem dX12_copy_90 : decode cX12_copy 90 = .ok (.iload 4, 2) := o_21 (u1_10 hc_X12_copy_80 rfl) (u1_11 hc_X12_copy_80 rfl) rfl
theorem dX12_copy_92 : decode cX12_copy 92 = .ok (.baload, 1) := o_51 (u1_12 hc_X12_copy_80 rfl) rfl
theorem dX12_copy_93 : decode cX12_copy 93 = .ok (.ifCond .ne 9, 3) := o_154 (u1_13 hc_X12_copy_80 rfl) (s2_d (u2_d (u1_14 hc_X12_copy_80 rfl) (u1_15 hc_X12_copy_80 rfl) rfl) rfl) rfl
theorem hc_X12_copy_96 : ((bL cX12_copy).drop 96).take 18 = [42, 4, 182, 0, 233, 172, 29, 155, 0, 49, 21, 5, 155, 0, 44, 21, 6, 155] := by decide +kernel
theorem dX12_copy_96 : decode cX12_copy 96 = .ok (.aload_n 0, 1) := o_42 (u1_0 hc_X12_copy_96 rfl) rfl
theorem dX12_copy_97 : decode cX12_copy 97 = .ok (.iconst 1, 1) := o_4 (u1_1 hc_X12_copy_96 rfl) rfl
theorem dX12_copy_98 : decode cX12_copy 98 = .ok (.invokevirtual 233, 3) := o_182 (u1_2 hc_X12_copy_96 rfl) (u2_d (u1_3 hc_X12_copy_96 rfl) (u1_4 hc_X12_copy_96 rfl) rfl) rfl
theorem dX12_copy_101 : decode cX12_copy 101 = .ok (.ireturn, 1) := o_172 (u1_5 hc_X12_copy_96 rfl) rfl
theorem dX12_copy_102 : decode cX12_copy 102 = .ok (.iload_n 3, 1) := o_29 (u1_6 hc_X12_copy_96 rfl) rfl
theorem dX12_copy_103 : decode cX12_copy 103 = .ok (.ifCond .lt 49, 3) := o_155 (u1_7 hc_X12_copy_96 rfl) (s2_d (u2_d (u1_8 hc_X12_copy_96 rfl) (u1_9 hc_X12_copy_96 rfl) rfl) rfl) rfl
theorem dX12_copy_106 : decode cX12_copy 106 = .ok (.iload 5, 2) := o_21 (u1_10 hc_X12_copy_96 rfl) (u1_11 hc_X12_copy_96 rfl) rfl
theorem dX12_copy_108 : decode cX12_copy 108 = .ok (.ifCond .lt 44, 3) := o_155 (u1_12 hc_X12_copy_96 rfl) (s2_d (u2_d (u1_13 hc_X12_copy_96 rfl) (u1_14 hc_X12_copy_96 rfl) rfl) rfl) rfl
theorem dX12_copy_111 : decode cX12_copy 111 = .ok (.iload 6, 2) := o_21 (u1_15 hc_X12_copy_96 rfl) (u1_16 hc_X12_copy_96 rfl) rfl
theorem hc_X12_copy_112 : ((bL cX12_copy).drop 112).take 18 = [6, 155, 0, 39, 29, 133, 21, 6, 133, 97, 42, 180, 0, 129, 27, 46, 133, 148] := by decide +kernel
theorem dX12_copy_113 : decode cX12_copy 113 = .ok (.ifCond .lt 39, 3) := o_155 (u1_1 hc_X12_copy_112 rfl) (s2_d (u2_d (u1_2 hc_X12_copy_112 rfl) (u1_3 hc_X12_copy_112 rfl) rfl) rfl) rfl
theorem dX12_copy_116 : decode cX12_copy 116 = .ok (.iload_n 3, 1) := o_29 (u1_4 hc_X12_copy_112 rfl) rfl
theorem dX12_copy_117 : decode cX12_copy 117 = .ok (.i2l, 1) := o_133 (u1_5 hc_X12_copy_112 rfl) rfl
theorem dX12_copy_118 : decode cX12_copy 118 = .ok (.iload 6, 2) := o_21 (u1_6 hc_X12_copy_112 rfl) (u1_7 hc_X12_copy_112 rfl) rfl
theorem dX12_copy_120 : decode cX12_copy 120 = .ok (.i2l, 1) := o_133 (u1_8 hc_X12_copy_112 rfl) rfl
theorem dX12_copy_121 : decode cX12_copy 121 = .ok (.ladd, 1) := o_97 (u1_9 hc_X12_copy_112 rfl) rfl
theorem dX12_copy_122 : decode cX12_copy 122 = .ok (.aload_n 0, 1) := o_42 (u1_10 hc_X12_copy_112 rfl) rfl
theorem dX12_copy_123 : decode cX12_copy 123 = .ok (.getfield 129, 3) := o_180 (u1_11 hc_X12_copy_112 rfl) (u2_d (u1_12 hc_X12_copy_112 rfl) (u1_13 hc_X12_copy_112 rfl) rfl) rfl
theorem dX12_copy_126 : decode cX12_copy 126 = .ok (.iload_n 1, 1) := o_27 (u1_14 hc_X12_copy_112 rfl) rfl
theorem dX12_copy_127 : decode cX12_copy 127 = .ok (.iaload, 1) := o_46 (u1_15 hc_X12_copy_112 rfl) rfl
theorem hc_X12_copy_128 : ((bL cX12_copy).drop 128).take 18 = [133, 148, 157, 0, 22, 21, 5, 133, 21, 6, 133, 97, 42, 180, 0, 129, 21, 4] := by decide +kernel
theorem dX12_copy_128 : decode cX12_copy 128 = .ok (.i2l, 1) := o_133 (u1_0 hc_X12_copy_128 rfl) rfl
theorem dX12_copy_129 : decode cX12_copy 129 = .ok (.lcmp, 1) := o_148 (u1_1 hc_X12_copy_128 rfl) rfl
theorem dX12_copy_130 : decode cX12_copy 130 = .ok (.ifCond .gt 22, 3) := o_157 (u1_2 hc_X12_copy_128 rfl) (s2_d (u2_d (u1_3 hc_X12_copy_128 rfl) (u1_4 hc_X12_copy_128 rfl) rfl) rfl) rfl
theorem dX12_copy_133 : decode cX12_copy 133 = .ok (.iload 5, 2) := o_21 (u1_5 hc_X12_copy_128 rfl) (u1_6 hc_X12_copy_128 rfl) rfl
theorem dX12_copy_135 : decode cX12_copy 135 = .ok (.i2l, 1) := o_133 (u1_7 hc_X12_copy_128 rfl) rfl
theorem dX12_copy_136 : decode cX12_copy 136 = .ok (.iload 6, 2) := o_21 (u1_8 hc_X12_copy_128 rfl) (u1_9 hc_X12_copy_128 rfl) rfl
theorem dX12_copy_138 : decode cX12_copy 138 = .ok (.i2l, 1) := o_133 (u1_10 hc_X12_copy_128 rfl) rfl
theorem dX12_copy_139 : decode cX12_copy 139 = .ok (.ladd, 1) := o_97 (u1_11 hc_X12_copy_128 rfl) rfl
theorem dX12_copy_140 : decode cX12_copy 140 = .ok (.aload_n 0, 1) := o_42 (u1_12 hc_X12_copy_128 rfl) rfl
theorem dX12_copy_141 : decode cX12_copy 141 = .ok (.getfield 129, 3) := o_180 (u1_13 hc_X12_copy_128 rfl) (u2_d (u1_14 hc_X12_copy_128 rfl) (u1_15 hc_X12_copy_128 rfl) rfl) rfl
theorem hc_X12_copy_144 : ((bL cX12_copy).drop 144).take 18 = [21, 4, 46, 133, 148, 158, 0, 9, 42, 5, 182, 0, 233, 172, 3, 54, 7, 21] := by decide +kernel
theorem dX12_copy_144 : decode cX12_copy 144 = .ok (.iload 4, 2) := o_21 (u1_0 hc_X12_copy_144 rfl) (u1_1 hc_X12_copy_144 rfl) rfl
theorem dX12_copy_146 : decode cX12_copy 146 = .ok (.iaload, 1) := o_46 (u1_2 hc_X12_copy_144 rfl) rfl
theorem dX12_copy_147 : decode cX12_copy 147 = .ok (.i2l, 1) := o_133 (u1_3 hc_X12_copy_144 rfl) rfl
theorem dX12_copy_148 : decode cX12_copy 148 = .ok (.lcmp, 1) := o_148 (u1_4 hc_X12_copy_144 rfl) rfl
theorem dX12_copy_149 : decode cX12_copy 149 = .ok (.ifCond .le 9, 3) := o_158 (u1_5 hc_X12_copy_144 rfl) (s2_d (u2_d (u1_6 hc_X12_copy_144 rfl) (u1_7 hc_X12_copy_144 rfl) rfl) rfl) rfl
theorem dX12_copy_152 : decode cX12_copy 152 = .ok (.aload_n 0, 1) := o_42 (u1_8 hc_X12_copy_144 rfl) rfl
theorem dX12_copy_153 : decode cX12_copy 153 = .ok (.iconst 2, 1) := o_5 (u1_9 hc_X12_copy_144 rfl) rfl
theorem dX12_copy_154 : decode cX12_copy 154 = .ok (.invokevirtual 233, 3) := o_182 (u1_10 hc_X12_copy_144 rfl) (u2_d (u1_11 hc_X12_copy_144 rfl) (u1_12 hc_X12_copy_144 rfl) rfl) rfl
theorem dX12_copy_157 : decode cX12_copy 157 = .ok (.ireturn, 1) := o_172 (u1_13 hc_X12_copy_144 rfl) rfl
theorem dX12_copy_158 : decode cX12_copy 158 = .ok (.iconst 0, 1) := o_3 (u1_14 hc_X12_copy_144 rfl) rfl
theorem dX12_copy_159 : decode cX12_copy 159 = .ok (.istore 7, 2) := o_54 (u1_15 hc_X12_copy_144 rfl) (u1_16 hc_X12_copy_144 rfl) rfl
theorem hc_X12_copy_160 : ((bL cX12_copy).drop 160).take 18 = [7, 21, 7, 21, 6, 162, 0, 30, 42, 180, 0, 148, 21, 7, 42, 180, 0, 132] := by decide +kernel
theorem dX12_copy_161 : decode cX12_copy 161 = .ok (.iload 7, 2) := o_21 (u1_1 hc_X12_copy_160 rfl) (u1_2 hc_X12_copy_160 rfl) rfl
theorem dX12_copy_163 : decode cX12_copy 163 = .ok (.iload 6, 2) := o_21 (u1_3 hc_X12_copy_160 rfl) (u1_4 hc_X12_copy_160 rfl) rfl
theorem dX12_copy_165 : decode cX12_copy 165 = .ok (.if_icmp .ge 30, 3) := o_162 (u1_5 hc_X12_copy_160 rfl) (s2_d (u2_d (u1_6 hc_X12_copy_160 rfl) (u1_7 hc_X12_copy_160 rfl) rfl) rfl) rfl
theorem dX12_copy_168 : decode cX12_copy 168 = .ok (.aload_n 0, 1) := o_42 (u1_8 hc_X12_copy_160 rfl) rfl
theorem dX12_copy_169 : decode cX12_copy 169 = .ok (.getfield 148, 3) := o_180 (u1_9 hc_X12_copy_160 rfl) (u2_d (u1_10 hc_X12_copy_160 rfl) (u1_11 hc_X12_copy_160 rfl) rfl) rfl
theorem dX12_copy_172 : decode cX12_copy 172 = .ok (.iload 7, 2) := o_21 (u1_12 hc_X12_copy_160 rfl) (u1_13 hc_X12_copy_160 rfl) rfl
theorem dX12_copy_174 : decode cX12_copy 174 = .ok (.aload_n 0, 1) := o_42 (u1_14 hc_X12_copy_160 rfl) rfl
theorem dX12_copy_175 : decode cX12_copy 175 = .ok (.getfield 132, 3) := o_180 (u1_15 hc_X12_copy_160 rfl) (u2_d (u1_16 hc_X12_copy_160 rfl) (u1_17 hc_X12_copy_160 rfl) rfl) rfl
theorem hc_X12_copy_176 : ((bL cX12_copy).drop 176).take 18 = [0, 132, 16, 12, 27, 104, 29, 96, 21, 7, 96, 47, 80, 132, 7, 1, 167, 255] := by decide +kernel
theorem dX12_copy_178 : decode cX12_copy 178 = .ok (.bipush 12, 2) := o_16 (u1_2 hc_X12_copy_176 rfl) (s1_d (u1_3 hc_X12_copy_176 rfl) rfl) rfl
theorem dX12_copy_180 : decode cX12_copy 180 = .ok (.iload_n 1, 1) := o_27 (u1_4 hc_X12_copy_176 rfl) rfl
theorem dX12_copy_181 : decode cX12_copy 181 = .ok (.imul, 1) := o_104 (u1_5 hc_X12_copy_176 rfl) rfl
theorem dX12_copy_182 : decode cX12_copy 182 = .ok (.iload_n 3, 1) := o_29 (u1_6 hc_X12_copy_176 rfl) rfl
theorem dX12_copy_183 : decode cX12_copy 183 = .ok (.iadd, 1) := o_96 (u1_7 hc_X12_copy_176 rfl) rfl
theorem dX12_copy_184 : decode cX12_copy 184 = .ok (.iload 7, 2) := o_21 (u1_8 hc_X12_copy_176 rfl) (u1_9 hc_X12_copy_176 rfl) rfl
theorem dX12_copy_186 : decode cX12_copy 186 = .ok (.iadd, 1) := o_96 (u1_10 hc_X12_copy_176 rfl) rfl
theorem dX12_copy_187 : decode cX12_copy 187 = .ok (.laload, 1) := o_47 (u1_11 hc_X12_copy_176 rfl) rfl
theorem dX12_copy_188 : decode cX12_copy 188 = .ok (.lastore, 1) := o_80 (u1_12 hc_X12_copy_176 rfl) rfl
theorem dX12_copy_189 : decode cX12_copy 189 = .ok (.iinc 7 1, 3) := o_132 (u1_13 hc_X12_copy_176 rfl) (u1_14 hc_X12_copy_176 rfl) (s1_d (u1_15 hc_X12_copy_176 rfl) rfl) rfl
theorem hc_X12_copy_192 : ((bL cX12_copy).drop 192).take 18 = [167, 255, 225, 3, 54, 7, 21, 7, 21, 6, 162, 0, 32, 42, 180, 0, 132, 16] := by decide +kernel
theorem dX12_copy_192 : decode cX12_copy 192 = .ok (.goto (-31), 3) := o_167 (u1_0 hc_X12_copy_192 rfl) (s2_d (u2_d (u1_1 hc_X12_copy_192 rfl) (u1_2 hc_X12_copy_192 rfl) rfl) rfl) rfl
theorem dX12_copy_195 : decode cX12_copy 195 = .ok (.iconst 0, 1) := o_3 (u1_3 hc_X12_copy_192 rfl) rfl
theorem dX12_copy_196 : decode cX12_copy 196 = .ok (.istore 7, 2) := o_54 (u1_4 hc_X12_copy_192 rfl) (u1_5 hc_X12_copy_192 rfl) rfl
theorem dX12_copy_198 : decode cX12_copy 198 = .ok (.iload 7, 2) := o_21 (u1_6 hc_X12_copy_192 rfl) (u1_7 hc_X12_copy_192 rfl) rfl
theorem dX12_copy_200 : decode cX12_copy 200 = .ok (.iload 6, 2) := o_21 (u1_8 hc_X12_copy_192 rfl) (u1_9 hc_X12_copy_192 rfl) rfl
theorem dX12_copy_202 : decode cX12_copy 202 = .ok (.if_icmp .ge 32, 3) := o_162 (u1_10 hc_X12_copy_192 rfl) (s2_d (u2_d (u1_11 hc_X12_copy_192 rfl) (u1_12 hc_X12_copy_192 rfl) rfl) rfl) rfl
theorem dX12_copy_205 : decode cX12_copy 205 = .ok (.aload_n 0, 1) := o_42 (u1_13 hc_X12_copy_192 rfl) rfl
theorem dX12_copy_206 : decode cX12_copy 206 = .ok (.getfield 132, 3) := o_180 (u1_14 hc_X12_copy_192 rfl) (u2_d (u1_15 hc_X12_copy_192 rfl) (u1_16 hc_X12_copy_192 rfl) rfl) rfl
theorem hc_X12_copy_208 : ((bL cX12_copy).drop 208).take 18 = [132, 16, 12, 21, 4, 104, 21, 5, 96, 21, 7, 96, 42, 180, 0, 148, 21, 7] := by decide +kernel
theorem dX12_copy_209 : decode cX12_copy 209 = .ok (.bipush 12, 2) := o_16 (u1_1 hc_X12_copy_208 rfl) (s1_d (u1_2 hc_X12_copy_208 rfl) rfl) rfl
theorem dX12_copy_211 : decode cX12_copy 211 = .ok (.iload 4, 2) := o_21 (u1_3 hc_X12_copy_208 rfl) (u1_4 hc_X12_copy_208 rfl) rfl
theorem dX12_copy_213 : decode cX12_copy 213 = .ok (.imul, 1) := o_104 (u1_5 hc_X12_copy_208 rfl) rfl
theorem dX12_copy_214 : decode cX12_copy 214 = .ok (.iload 5, 2) := o_21 (u1_6 hc_X12_copy_208 rfl) (u1_7 hc_X12_copy_208 rfl) rfl
theorem dX12_copy_216 : decode cX12_copy 216 = .ok (.iadd, 1) := o_96 (u1_8 hc_X12_copy_208 rfl) rfl
theorem dX12_copy_217 : decode cX12_copy 217 = .ok (.iload 7, 2) := o_21 (u1_9 hc_X12_copy_208 rfl) (u1_10 hc_X12_copy_208 rfl) rfl
theorem dX12_copy_219 : decode cX12_copy 219 = .ok (.iadd, 1) := o_96 (u1_11 hc_X12_copy_208 rfl) rfl
theorem dX12_copy_220 : decode cX12_copy 220 = .ok (.aload_n 0, 1) := o_42 (u1_12 hc_X12_copy_208 rfl) rfl
theorem dX12_copy_221 : decode cX12_copy 221 = .ok (.getfield 148, 3) := o_180 (u1_13 hc_X12_copy_208 rfl) (u2_d (u1_14 hc_X12_copy_208 rfl) (u1_15 hc_X12_copy_208 rfl) rfl) rfl
theorem hc_X12_copy_224 : ((bL cX12_copy).drop 224).take 18 = [21, 7, 47, 80, 132, 7, 1, 167, 255, 223, 4, 172] := by decide +kernel
theorem dX12_copy_224 : decode cX12_copy 224 = .ok (.iload 7, 2) := o_21 (u1_0 hc_X12_copy_224 rfl) (u1_1 hc_X12_copy_224 rfl) rfl
theorem dX12_copy_226 : decode cX12_copy 226 = .ok (.laload, 1) := o_47 (u1_2 hc_X12_copy_224 rfl) rfl
theorem dX12_copy_227 : decode cX12_copy 227 = .ok (.lastore, 1) := o_80 (u1_3 hc_X12_copy_224 rfl) rfl
theorem dX12_copy_228 : decode cX12_copy 228 = .ok (.iinc 7 1, 3) := o_132 (u1_4 hc_X12_copy_224 rfl) (u1_5 hc_X12_copy_224 rfl) (s1_d (u1_6 hc_X12_copy_224 rfl) rfl) rfl
theorem dX12_copy_231 : decode cX12_copy 231 = .ok (.goto (-33), 3) := o_167 (u1_7 hc_X12_copy_224 rfl) (s2_d (u2_d (u1_8 hc_X12_copy_224 rfl) (u1_9 hc_X12_copy_224 rfl) rfl) rfl) rfl
theorem dX12_copy_234 : decode cX12_copy 234 = .ok (.iconst 1, 1) := o_4 (u1_10 hc_X12_copy_224 rfl) rfl
theorem dX12_copy_235 : decode cX12_copy 235 = .ok (.ireturn, 1) := o_172 (u1_11 hc_X12_copy_224 rfl) rfl
theorem hc_X12_cast_0 : ((bL cX12_cast).drop 0).take 18 = [27, 133, 10, 20, 0, 170, 184, 0, 166, 153, 0, 9, 28, 16, 12, 164, 0, 5] := by decide +kernel
theorem dX12_cast_0 : decode cX12_cast 0 = .ok (.iload_n 1, 1) := o_27 (u1_0 hc_X12_cast_0 rfl) rfl
theorem dX12_cast_1 : decode cX12_cast 1 = .ok (.i2l, 1) := o_133 (u1_1 hc_X12_cast_0 rfl) rfl
theorem dX12_cast_2 : decode cX12_cast 2 = .ok (.lconst 1, 1) := o_10 (u1_2 hc_X12_cast_0 rfl) rfl
theorem dX12_cast_3 : decode cX12_cast 3 = .ok (.ldc2_w 170, 3) := o_20 (u1_3 hc_X12_cast_0 rfl) (u2_d (u1_4 hc_X12_cast_0 rfl) (u1_5 hc_X12_cast_0 rfl) rfl) rfl
theorem dX12_cast_6 : decode cX12_cast 6 = .ok (.invokestatic 166, 3) := o_184 (u1_6 hc_X12_cast_0 rfl) (u2_d (u1_7 hc_X12_cast_0 rfl) (u1_8 hc_X12_cast_0 rfl) rfl) rfl
theorem dX12_cast_9 : decode cX12_cast 9 = .ok (.ifCond .eq 9, 3) := o_153 (u1_9 hc_X12_cast_0 rfl) (s2_d (u2_d (u1_10 hc_X12_cast_0 rfl) (u1_11 hc_X12_cast_0 rfl) rfl) rfl) rfl
theorem dX12_cast_12 : decode cX12_cast 12 = .ok (.iload_n 2, 1) := o_28 (u1_12 hc_X12_cast_0 rfl) rfl
theorem dX12_cast_13 : decode cX12_cast 13 = .ok (.bipush 12, 2) := o_16 (u1_13 hc_X12_cast_0 rfl) (s1_d (u1_14 hc_X12_cast_0 rfl) rfl) rfl
