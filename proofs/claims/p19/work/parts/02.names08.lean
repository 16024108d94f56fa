theorem dX12_way_26 : decode cX12_way 26 = .ok (.iload_n 2, 1) := o_28 (u1_10 hc_X12_way_16 rfl) rfl
theorem dX12_way_27 : decode cX12_way 27 = .ok (.iaload, 1) := o_46 (u1_11 hc_X12_way_16 rfl) rfl
theorem dX12_way_28 : decode cX12_way 28 = .ok (.ireturn, 1) := o_172 (u1_12 hc_X12_way_16 rfl) rfl
theorem hc_X12_toward_0 : ((bL cX12_toward).drop 0).take 18 = [42, 27, 28, 182, 1, 28, 54, 4, 21, 4, 156, 0, 6, 21, 4, 172, 42, 27] := by decide +kernel
theorem dX12_toward_0 : decode cX12_toward 0 = .ok (.aload_n 0, 1) := o_42 (u1_0 hc_X12_toward_0 rfl) rfl
theorem dX12_toward_1 : decode cX12_toward 1 = .ok (.iload_n 1, 1) := o_27 (u1_1 hc_X12_toward_0 rfl) rfl
theorem dX12_toward_2 : decode cX12_toward 2 = .ok (.iload_n 2, 1) := o_28 (u1_2 hc_X12_toward_0 rfl) rfl
theorem dX12_toward_3 : decode cX12_toward 3 = .ok (.invokevirtual 284, 3) := o_182 (u1_3 hc_X12_toward_0 rfl) (u2_d (u1_4 hc_X12_toward_0 rfl) (u1_5 hc_X12_toward_0 rfl) rfl) rfl
theorem dX12_toward_6 : decode cX12_toward 6 = .ok (.istore 4, 2) := o_54 (u1_6 hc_X12_toward_0 rfl) (u1_7 hc_X12_toward_0 rfl) rfl
theorem dX12_toward_8 : decode cX12_toward 8 = .ok (.iload 4, 2) := o_21 (u1_8 hc_X12_toward_0 rfl) (u1_9 hc_X12_toward_0 rfl) rfl
theorem dX12_toward_10 : decode cX12_toward 10 = .ok (.ifCond .ge 6, 3) := o_156 (u1_10 hc_X12_toward_0 rfl) (s2_d (u2_d (u1_11 hc_X12_toward_0 rfl) (u1_12 hc_X12_toward_0 rfl) rfl) rfl) rfl
theorem dX12_toward_13 : decode cX12_toward 13 = .ok (.iload 4, 2) := o_21 (u1_13 hc_X12_toward_0 rfl) (u1_14 hc_X12_toward_0 rfl) rfl
theorem dX12_toward_15 : decode cX12_toward 15 = .ok (.ireturn, 1) := o_172 (u1_15 hc_X12_toward_0 rfl) rfl
theorem hc_X12_toward_16 : ((bL cX12_toward).drop 16).take 18 = [42, 27, 29, 182, 1, 31, 42, 180, 0, 44, 28, 46, 54, 5, 21, 5, 16, 247] := by decide +kernel
theorem dX12_toward_16 : decode cX12_toward 16 = .ok (.aload_n 0, 1) := o_42 (u1_0 hc_X12_toward_16 rfl) rfl
theorem dX12_toward_17 : decode cX12_toward 17 = .ok (.iload_n 1, 1) := o_27 (u1_1 hc_X12_toward_16 rfl) rfl
theorem dX12_toward_18 : decode cX12_toward 18 = .ok (.iload_n 3, 1) := o_29 (u1_2 hc_X12_toward_16 rfl) rfl
theorem dX12_toward_19 : decode cX12_toward 19 = .ok (.invokevirtual 287, 3) := o_182 (u1_3 hc_X12_toward_16 rfl) (u2_d (u1_4 hc_X12_toward_16 rfl) (u1_5 hc_X12_toward_16 rfl) rfl) rfl
theorem dX12_toward_22 : decode cX12_toward 22 = .ok (.aload_n 0, 1) := o_42 (u1_6 hc_X12_toward_16 rfl) rfl
theorem dX12_toward_23 : decode cX12_toward 23 = .ok (.getfield 44, 3) := o_180 (u1_7 hc_X12_toward_16 rfl) (u2_d (u1_8 hc_X12_toward_16 rfl) (u1_9 hc_X12_toward_16 rfl) rfl) rfl
theorem dX12_toward_26 : decode cX12_toward 26 = .ok (.iload_n 2, 1) := o_28 (u1_10 hc_X12_toward_16 rfl) rfl
theorem dX12_toward_27 : decode cX12_toward 27 = .ok (.iaload, 1) := o_46 (u1_11 hc_X12_toward_16 rfl) rfl
theorem dX12_toward_28 : decode cX12_toward 28 = .ok (.istore 5, 2) := o_54 (u1_12 hc_X12_toward_16 rfl) (u1_13 hc_X12_toward_16 rfl) rfl
theorem dX12_toward_30 : decode cX12_toward 30 = .ok (.iload 5, 2) := o_21 (u1_14 hc_X12_toward_16 rfl) (u1_15 hc_X12_toward_16 rfl) rfl
theorem hc_X12_toward_32 : ((bL cX12_toward).drop 32).take 18 = [16, 247, 159, 0, 8, 21, 5, 154, 0, 6, 16, 247, 172, 3, 54, 6, 21, 6] := by decide +kernel
theorem dX12_toward_32 : decode cX12_toward 32 = .ok (.bipush (-9), 2) := o_16 (u1_0 hc_X12_toward_32 rfl) (s1_d (u1_1 hc_X12_toward_32 rfl) rfl) rfl
theorem dX12_toward_34 : decode cX12_toward 34 = .ok (.if_icmp .eq 8, 3) := o_159 (u1_2 hc_X12_toward_32 rfl) (s2_d (u2_d (u1_3 hc_X12_toward_32 rfl) (u1_4 hc_X12_toward_32 rfl) rfl) rfl) rfl
theorem dX12_toward_37 : decode cX12_toward 37 = .ok (.iload 5, 2) := o_21 (u1_5 hc_X12_toward_32 rfl) (u1_6 hc_X12_toward_32 rfl) rfl
theorem dX12_toward_39 : decode cX12_toward 39 = .ok (.ifCond .ne 6, 3) := o_154 (u1_7 hc_X12_toward_32 rfl) (s2_d (u2_d (u1_8 hc_X12_toward_32 rfl) (u1_9 hc_X12_toward_32 rfl) rfl) rfl) rfl
theorem dX12_toward_42 : decode cX12_toward 42 = .ok (.bipush (-9), 2) := o_16 (u1_10 hc_X12_toward_32 rfl) (s1_d (u1_11 hc_X12_toward_32 rfl) rfl) rfl
theorem dX12_toward_44 : decode cX12_toward 44 = .ok (.ireturn, 1) := o_172 (u1_12 hc_X12_toward_32 rfl) rfl
theorem dX12_toward_45 : decode cX12_toward 45 = .ok (.iconst 0, 1) := o_3 (u1_13 hc_X12_toward_32 rfl) rfl
theorem dX12_toward_46 : decode cX12_toward 46 = .ok (.istore 6, 2) := o_54 (u1_14 hc_X12_toward_32 rfl) (u1_15 hc_X12_toward_32 rfl) rfl
theorem hc_X12_toward_48 : ((bL cX12_toward).drop 48).take 18 = [21, 6, 16, 10, 162, 0, 95, 42, 27, 21, 6, 182, 1, 25, 153, 0, 42, 42] := by decide +kernel
theorem dX12_toward_48 : decode cX12_toward 48 = .ok (.iload 6, 2) := o_21 (u1_0 hc_X12_toward_48 rfl) (u1_1 hc_X12_toward_48 rfl) rfl
theorem dX12_toward_50 : decode cX12_toward 50 = .ok (.bipush 10, 2) := o_16 (u1_2 hc_X12_toward_48 rfl) (s1_d (u1_3 hc_X12_toward_48 rfl) rfl) rfl
theorem dX12_toward_52 : decode cX12_toward 52 = .ok (.if_icmp .ge 95, 3) := o_162 (u1_4 hc_X12_toward_48 rfl) (s2_d (u2_d (u1_5 hc_X12_toward_48 rfl) (u1_6 hc_X12_toward_48 rfl) rfl) rfl) rfl
theorem dX12_toward_55 : decode cX12_toward 55 = .ok (.aload_n 0, 1) := o_42 (u1_7 hc_X12_toward_48 rfl) rfl
theorem dX12_toward_56 : decode cX12_toward 56 = .ok (.iload_n 1, 1) := o_27 (u1_8 hc_X12_toward_48 rfl) rfl
theorem dX12_toward_57 : decode cX12_toward 57 = .ok (.iload 6, 2) := o_21 (u1_9 hc_X12_toward_48 rfl) (u1_10 hc_X12_toward_48 rfl) rfl
theorem dX12_toward_59 : decode cX12_toward 59 = .ok (.invokevirtual 281, 3) := o_182 (u1_11 hc_X12_toward_48 rfl) (u2_d (u1_12 hc_X12_toward_48 rfl) (u1_13 hc_X12_toward_48 rfl) rfl) rfl
theorem dX12_toward_62 : decode cX12_toward 62 = .ok (.ifCond .eq 42, 3) := o_153 (u1_14 hc_X12_toward_48 rfl) (s2_d (u2_d (u1_15 hc_X12_toward_48 rfl) (u1_16 hc_X12_toward_48 rfl) rfl) rfl) rfl
theorem hc_X12_toward_64 : ((bL cX12_toward).drop 64).take 18 = [42, 42, 180, 1, 7, 16, 247, 159, 0, 33, 29, 153, 0, 25, 42, 180, 1, 10] := by decide +kernel
theorem dX12_toward_65 : decode cX12_toward 65 = .ok (.aload_n 0, 1) := o_42 (u1_1 hc_X12_toward_64 rfl) rfl
theorem dX12_toward_66 : decode cX12_toward 66 = .ok (.getfield 263, 3) := o_180 (u1_2 hc_X12_toward_64 rfl) (u2_d (u1_3 hc_X12_toward_64 rfl) (u1_4 hc_X12_toward_64 rfl) rfl) rfl
theorem dX12_toward_69 : decode cX12_toward 69 = .ok (.bipush (-9), 2) := o_16 (u1_5 hc_X12_toward_64 rfl) (s1_d (u1_6 hc_X12_toward_64 rfl) rfl) rfl
theorem dX12_toward_71 : decode cX12_toward 71 = .ok (.if_icmp .eq 33, 3) := o_159 (u1_7 hc_X12_toward_64 rfl) (s2_d (u2_d (u1_8 hc_X12_toward_64 rfl) (u1_9 hc_X12_toward_64 rfl) rfl) rfl) rfl
theorem dX12_toward_74 : decode cX12_toward 74 = .ok (.iload_n 3, 1) := o_29 (u1_10 hc_X12_toward_64 rfl) rfl
theorem dX12_toward_75 : decode cX12_toward 75 = .ok (.ifCond .eq 25, 3) := o_153 (u1_11 hc_X12_toward_64 rfl) (s2_d (u2_d (u1_12 hc_X12_toward_64 rfl) (u1_13 hc_X12_toward_64 rfl) rfl) rfl) rfl
theorem dX12_toward_78 : decode cX12_toward 78 = .ok (.aload_n 0, 1) := o_42 (u1_14 hc_X12_toward_64 rfl) rfl
theorem dX12_toward_79 : decode cX12_toward 79 = .ok (.getfield 266, 3) := o_180 (u1_15 hc_X12_toward_64 rfl) (u2_d (u1_16 hc_X12_toward_64 rfl) (u1_17 hc_X12_toward_64 rfl) rfl) rfl
theorem hc_X12_toward_80 : ((bL cX12_toward).drop 80).take 18 = [1, 10, 16, 247, 159, 0, 16, 42, 42, 180, 1, 10, 3, 182, 1, 0, 4, 160] := by decide +kernel
theorem dX12_toward_82 : decode cX12_toward 82 = .ok (.bipush (-9), 2) := o_16 (u1_2 hc_X12_toward_80 rfl) (s1_d (u1_3 hc_X12_toward_80 rfl) rfl) rfl
theorem dX12_toward_84 : decode cX12_toward 84 = .ok (.if_icmp .eq 16, 3) := o_159 (u1_4 hc_X12_toward_80 rfl) (s2_d (u2_d (u1_5 hc_X12_toward_80 rfl) (u1_6 hc_X12_toward_80 rfl) rfl) rfl) rfl
theorem dX12_toward_87 : decode cX12_toward 87 = .ok (.aload_n 0, 1) := o_42 (u1_7 hc_X12_toward_80 rfl) rfl
theorem dX12_toward_88 : decode cX12_toward 88 = .ok (.aload_n 0, 1) := o_42 (u1_8 hc_X12_toward_80 rfl) rfl
theorem dX12_toward_89 : decode cX12_toward 89 = .ok (.getfield 266, 3) := o_180 (u1_9 hc_X12_toward_80 rfl) (u2_d (u1_10 hc_X12_toward_80 rfl) (u1_11 hc_X12_toward_80 rfl) rfl) rfl
theorem dX12_toward_92 : decode cX12_toward 92 = .ok (.iconst 0, 1) := o_3 (u1_12 hc_X12_toward_80 rfl) rfl
theorem dX12_toward_93 : decode cX12_toward 93 = .ok (.invokevirtual 256, 3) := o_182 (u1_13 hc_X12_toward_80 rfl) (u2_d (u1_14 hc_X12_toward_80 rfl) (u1_15 hc_X12_toward_80 rfl) rfl) rfl
theorem hc_X12_toward_96 : ((bL cX12_toward).drop 96).take 18 = [4, 160, 0, 7, 4, 167, 0, 4, 3, 54, 7, 42, 180, 1, 7, 54, 8, 21] := by decide +kernel
theorem dX12_toward_96 : decode cX12_toward 96 = .ok (.iconst 1, 1) := o_4 (u1_0 hc_X12_toward_96 rfl) rfl
theorem dX12_toward_97 : decode cX12_toward 97 = .ok (.if_icmp .ne 7, 3) := o_160 (u1_1 hc_X12_toward_96 rfl) (s2_d (u2_d (u1_2 hc_X12_toward_96 rfl) (u1_3 hc_X12_toward_96 rfl) rfl) rfl) rfl
theorem dX12_toward_100 : decode cX12_toward 100 = .ok (.iconst 1, 1) := o_4 (u1_4 hc_X12_toward_96 rfl) rfl
theorem dX12_toward_101 : decode cX12_toward 101 = .ok (.goto 4, 3) := o_167 (u1_5 hc_X12_toward_96 rfl) (s2_d (u2_d (u1_6 hc_X12_toward_96 rfl) (u1_7 hc_X12_toward_96 rfl) rfl) rfl) rfl
theorem dX12_toward_104 : decode cX12_toward 104 = .ok (.iconst 0, 1) := o_3 (u1_8 hc_X12_toward_96 rfl) rfl
theorem dX12_toward_105 : decode cX12_toward 105 = .ok (.istore 7, 2) := o_54 (u1_9 hc_X12_toward_96 rfl) (u1_10 hc_X12_toward_96 rfl) rfl
theorem dX12_toward_107 : decode cX12_toward 107 = .ok (.aload_n 0, 1) := o_42 (u1_11 hc_X12_toward_96 rfl) rfl
theorem dX12_toward_108 : decode cX12_toward 108 = .ok (.getfield 263, 3) := o_180 (u1_12 hc_X12_toward_96 rfl) (u2_d (u1_13 hc_X12_toward_96 rfl) (u1_14 hc_X12_toward_96 rfl) rfl) rfl
theorem dX12_toward_111 : decode cX12_toward 111 = .ok (.istore 8, 2) := o_54 (u1_15 hc_X12_toward_96 rfl) (u1_16 hc_X12_toward_96 rfl) rfl
theorem hc_X12_toward_112 : ((bL cX12_toward).drop 112).take 18 = [8, 21, 7, 153, 0, 26, 42, 21, 8, 29, 182, 1, 31, 42, 180, 0, 44, 28] := by decide +kernel
theorem dX12_toward_113 : decode cX12_toward 113 = .ok (.iload 7, 2) := o_21 (u1_1 hc_X12_toward_112 rfl) (u1_2 hc_X12_toward_112 rfl) rfl
theorem dX12_toward_115 : decode cX12_toward 115 = .ok (.ifCond .eq 26, 3) := o_153 (u1_3 hc_X12_toward_112 rfl) (s2_d (u2_d (u1_4 hc_X12_toward_112 rfl) (u1_5 hc_X12_toward_112 rfl) rfl) rfl) rfl
theorem dX12_toward_118 : decode cX12_toward 118 = .ok (.aload_n 0, 1) := o_42 (u1_6 hc_X12_toward_112 rfl) rfl
theorem dX12_toward_119 : decode cX12_toward 119 = .ok (.iload 8, 2) := o_21 (u1_7 hc_X12_toward_112 rfl) (u1_8 hc_X12_toward_112 rfl) rfl
theorem dX12_toward_121 : decode cX12_toward 121 = .ok (.iload_n 3, 1) := o_29 (u1_9 hc_X12_toward_112 rfl) rfl
theorem dX12_toward_122 : decode cX12_toward 122 = .ok (.invokevirtual 287, 3) := o_182 (u1_10 hc_X12_toward_112 rfl) (u2_d (u1_11 hc_X12_toward_112 rfl) (u1_12 hc_X12_toward_112 rfl) rfl) rfl
theorem dX12_toward_125 : decode cX12_toward 125 = .ok (.aload_n 0, 1) := o_42 (u1_13 hc_X12_toward_112 rfl) rfl
theorem dX12_toward_126 : decode cX12_toward 126 = .ok (.getfield 44, 3) := o_180 (u1_14 hc_X12_toward_112 rfl) (u2_d (u1_15 hc_X12_toward_112 rfl) (u1_16 hc_X12_toward_112 rfl) rfl) rfl
theorem hc_X12_toward_128 : ((bL cX12_toward).drop 128).take 18 = [44, 28, 46, 21, 5, 4, 100, 160, 0, 6, 21, 6, 172, 132, 6, 1, 167, 255] := by decide +kernel
theorem dX12_toward_129 : decode cX12_toward 129 = .ok (.iload_n 2, 1) := o_28 (u1_1 hc_X12_toward_128 rfl) rfl
theorem dX12_toward_130 : decode cX12_toward 130 = .ok (.iaload, 1) := o_46 (u1_2 hc_X12_toward_128 rfl) rfl
theorem dX12_toward_131 : decode cX12_toward 131 = .ok (.iload 5, 2) := o_21 (u1_3 hc_X12_toward_128 rfl) (u1_4 hc_X12_toward_128 rfl) rfl
theorem dX12_toward_133 : decode cX12_toward 133 = .ok (.iconst 1, 1) := o_4 (u1_5 hc_X12_toward_128 rfl) rfl
theorem dX12_toward_134 : decode cX12_toward 134 = .ok (.isub, 1) := o_100 (u1_6 hc_X12_toward_128 rfl) rfl
theorem dX12_toward_135 : decode cX12_toward 135 = .ok (.if_icmp .ne 6, 3) := o_160 (u1_7 hc_X12_toward_128 rfl) (s2_d (u2_d (u1_8 hc_X12_toward_128 rfl) (u1_9 hc_X12_toward_128 rfl) rfl) rfl) rfl
theorem dX12_toward_138 : decode cX12_toward 138 = .ok (.iload 6, 2) := o_21 (u1_10 hc_X12_toward_128 rfl) (u1_11 hc_X12_toward_128 rfl) rfl
theorem dX12_toward_140 : decode cX12_toward 140 = .ok (.ireturn, 1) := o_172 (u1_12 hc_X12_toward_128 rfl) rfl
theorem dX12_toward_141 : decode cX12_toward 141 = .ok (.iinc 6 1, 3) := o_132 (u1_13 hc_X12_toward_128 rfl) (u1_14 hc_X12_toward_128 rfl) (s1_d (u1_15 hc_X12_toward_128 rfl) rfl) rfl
theorem hc_X12_toward_144 : ((bL cX12_toward).drop 144).take 18 = [167, 255, 160, 16, 247, 172] := by decide +kernel
theorem dX12_toward_144 : decode cX12_toward 144 = .ok (.goto (-96), 3) := o_167 (u1_0 hc_X12_toward_144 rfl) (s2_d (u2_d (u1_1 hc_X12_toward_144 rfl) (u1_2 hc_X12_toward_144 rfl) rfl) rfl) rfl
theorem dX12_toward_147 : decode cX12_toward 147 = .ok (.bipush (-9), 2) := o_16 (u1_3 hc_X12_toward_144 rfl) (s1_d (u1_4 hc_X12_toward_144 rfl) rfl) rfl
theorem dX12_toward_149 : decode cX12_toward 149 = .ok (.ireturn, 1) := o_172 (u1_5 hc_X12_toward_144 rfl) rfl
theorem hc_X12_endTale_0 : ((bL cX12_endTale).drop 0).take 18 = [42, 16, 247, 181, 0, 155, 42, 3, 181, 1, 35, 177] := by decide +kernel
theorem dX12_endTale_0 : decode cX12_endTale 0 = .ok (.aload_n 0, 1) := o_42 (u1_0 hc_X12_endTale_0 rfl) rfl
theorem dX12_endTale_1 : decode cX12_endTale 1 = .ok (.bipush (-9), 2) := o_16 (u1_1 hc_X12_endTale_0 rfl) (s1_d (u1_2 hc_X12_endTale_0 rfl) rfl) rfl
theorem dX12_endTale_3 : decode cX12_endTale 3 = .ok (.putfield 155, 3) := o_181 (u1_3 hc_X12_endTale_0 rfl) (u2_d (u1_4 hc_X12_endTale_0 rfl) (u1_5 hc_X12_endTale_0 rfl) rfl) rfl
theorem dX12_endTale_6 : decode cX12_endTale 6 = .ok (.aload_n 0, 1) := o_42 (u1_6 hc_X12_endTale_0 rfl) rfl
theorem dX12_endTale_7 : decode cX12_endTale 7 = .ok (.iconst 0, 1) := o_3 (u1_7 hc_X12_endTale_0 rfl) rfl
theorem dX12_endTale_8 : decode cX12_endTale 8 = .ok (.putfield 291, 3) := o_181 (u1_8 hc_X12_endTale_0 rfl) (u2_d (u1_9 hc_X12_endTale_0 rfl) (u1_10 hc_X12_endTale_0 rfl) rfl) rfl
theorem dX12_endTale_11 : decode cX12_endTale 11 = .ok (.return_, 1) := o_177 (u1_11 hc_X12_endTale_0 rfl) rfl
theorem hc_X12_formNow_0 : ((bL cX12_formNow).drop 0).take 18 = [42, 180, 0, 155, 16, 247, 159, 0, 10, 42, 180, 0, 50, 27, 46, 172, 42, 27] := by decide +kernel
theorem dX12_formNow_0 : decode cX12_formNow 0 = .ok (.aload_n 0, 1) := o_42 (u1_0 hc_X12_formNow_0 rfl) rfl
theorem dX12_formNow_1 : decode cX12_formNow 1 = .ok (.getfield 155, 3) := o_180 (u1_1 hc_X12_formNow_0 rfl) (u2_d (u1_2 hc_X12_formNow_0 rfl) (u1_3 hc_X12_formNow_0 rfl) rfl) rfl
theorem dX12_formNow_4 : decode cX12_formNow 4 = .ok (.bipush (-9), 2) := o_16 (u1_4 hc_X12_formNow_0 rfl) (s1_d (u1_5 hc_X12_formNow_0 rfl) rfl) rfl
theorem dX12_formNow_6 : decode cX12_formNow 6 = .ok (.if_icmp .eq 10, 3) := o_159 (u1_6 hc_X12_formNow_0 rfl) (s2_d (u2_d (u1_7 hc_X12_formNow_0 rfl) (u1_8 hc_X12_formNow_0 rfl) rfl) rfl) rfl
theorem dX12_formNow_9 : decode cX12_formNow 9 = .ok (.aload_n 0, 1) := o_42 (u1_9 hc_X12_formNow_0 rfl) rfl
theorem dX12_formNow_10 : decode cX12_formNow 10 = .ok (.getfield 50, 3) := o_180 (u1_10 hc_X12_formNow_0 rfl) (u2_d (u1_11 hc_X12_formNow_0 rfl) (u1_12 hc_X12_formNow_0 rfl) rfl) rfl
theorem dX12_formNow_13 : decode cX12_formNow 13 = .ok (.iload_n 1, 1) := o_27 (u1_13 hc_X12_formNow_0 rfl) rfl
theorem dX12_formNow_14 : decode cX12_formNow 14 = .ok (.iaload, 1) := o_46 (u1_14 hc_X12_formNow_0 rfl) rfl
theorem dX12_formNow_15 : decode cX12_formNow 15 = .ok (.ireturn, 1) := o_172 (u1_15 hc_X12_formNow_0 rfl) rfl
theorem hc_X12_formNow_16 : ((bL cX12_formNow).drop 16).take 18 = [42, 27, 182, 0, 208, 61, 28, 16, 247, 160, 0, 8, 16, 247, 167, 0, 9, 42] := by decide +kernel
theorem dX12_formNow_16 : decode cX12_formNow 16 = .ok (.aload_n 0, 1) := o_42 (u1_0 hc_X12_formNow_16 rfl) rfl
theorem dX12_formNow_17 : decode cX12_formNow 17 = .ok (.iload_n 1, 1) := o_27 (u1_1 hc_X12_formNow_16 rfl) rfl
theorem dX12_formNow_18 : decode cX12_formNow 18 = .ok (.invokevirtual 208, 3) := o_182 (u1_2 hc_X12_formNow_16 rfl) (u2_d (u1_3 hc_X12_formNow_16 rfl) (u1_4 hc_X12_formNow_16 rfl) rfl) rfl
theorem dX12_formNow_21 : decode cX12_formNow 21 = .ok (.istore_n 2, 1) := o_61 (u1_5 hc_X12_formNow_16 rfl) rfl
theorem dX12_formNow_22 : decode cX12_formNow 22 = .ok (.iload_n 2, 1) := o_28 (u1_6 hc_X12_formNow_16 rfl) rfl
theorem dX12_formNow_23 : decode cX12_formNow 23 = .ok (.bipush (-9), 2) := o_16 (u1_7 hc_X12_formNow_16 rfl) (s1_d (u1_8 hc_X12_formNow_16 rfl) rfl) rfl
theorem dX12_formNow_25 : decode cX12_formNow 25 = .ok (.if_icmp .ne 8, 3) := o_160 (u1_9 hc_X12_formNow_16 rfl) (s2_d (u2_d (u1_10 hc_X12_formNow_16 rfl) (u1_11 hc_X12_formNow_16 rfl) rfl) rfl) rfl
theorem dX12_formNow_28 : decode cX12_formNow 28 = .ok (.bipush (-9), 2) := o_16 (u1_12 hc_X12_formNow_16 rfl) (s1_d (u1_13 hc_X12_formNow_16 rfl) rfl) rfl
theorem dX12_formNow_30 : decode cX12_formNow 30 = .ok (.goto 9, 3) := o_167 (u1_14 hc_X12_formNow_16 rfl) (s2_d (u2_d (u1_15 hc_X12_formNow_16 rfl) (u1_16 hc_X12_formNow_16 rfl) rfl) rfl) rfl
theorem hc_X12_formNow_32 : ((bL cX12_formNow).drop 32).take 18 = [9, 42, 180, 0, 25, 28, 46, 172] := by decide +kernel
theorem dX12_formNow_33 : decode cX12_formNow 33 = .ok (.aload_n 0, 1) := o_42 (u1_1 hc_X12_formNow_32 rfl) rfl
theorem dX12_formNow_34 : decode cX12_formNow 34 = .ok (.getfield 25, 3) := o_180 (u1_2 hc_X12_formNow_32 rfl) (u2_d (u1_3 hc_X12_formNow_32 rfl) (u1_4 hc_X12_formNow_32 rfl) rfl) rfl
theorem dX12_formNow_37 : decode cX12_formNow 37 = .ok (.iload_n 2, 1) := o_28 (u1_5 hc_X12_formNow_32 rfl) rfl
theorem dX12_formNow_38 : decode cX12_formNow 38 = .ok (.iaload, 1) := o_46 (u1_6 hc_X12_formNow_32 rfl) rfl
theorem dX12_formNow_39 : decode cX12_formNow 39 = .ok (.ireturn, 1) := o_172 (u1_7 hc_X12_formNow_32 rfl) rfl
theorem hc_X12_atNow_0 : ((bL cX12_atNow).drop 0).take 18 = [42, 180, 0, 155, 16, 247, 159, 0, 10, 42, 180, 0, 53, 27, 46, 172, 42, 27] := by decide +kernel
theorem dX12_atNow_0 : decode cX12_atNow 0 = .ok (.aload_n 0, 1) := o_42 (u1_0 hc_X12_atNow_0 rfl) rfl
theorem dX12_atNow_1 : decode cX12_atNow 1 = .ok (.getfield 155, 3) := o_180 (u1_1 hc_X12_atNow_0 rfl) (u2_d (u1_2 hc_X12_atNow_0 rfl) (u1_3 hc_X12_atNow_0 rfl) rfl) rfl
theorem dX12_atNow_4 : decode cX12_atNow 4 = .ok (.bipush (-9), 2) := o_16 (u1_4 hc_X12_atNow_0 rfl) (s1_d (u1_5 hc_X12_atNow_0 rfl) rfl) rfl
theorem dX12_atNow_6 : decode cX12_atNow 6 = .ok (.if_icmp .eq 10, 3) := o_159 (u1_6 hc_X12_atNow_0 rfl) (s2_d (u2_d (u1_7 hc_X12_atNow_0 rfl) (u1_8 hc_X12_atNow_0 rfl) rfl) rfl) rfl
theorem dX12_atNow_9 : decode cX12_atNow 9 = .ok (.aload_n 0, 1) := o_42 (u1_9 hc_X12_atNow_0 rfl) rfl
theorem dX12_atNow_10 : decode cX12_atNow 10 = .ok (.getfield 53, 3) := o_180 (u1_10 hc_X12_atNow_0 rfl) (u2_d (u1_11 hc_X12_atNow_0 rfl) (u1_12 hc_X12_atNow_0 rfl) rfl) rfl
theorem dX12_atNow_13 : decode cX12_atNow 13 = .ok (.iload_n 1, 1) := o_27 (u1_13 hc_X12_atNow_0 rfl) rfl
theorem dX12_atNow_14 : decode cX12_atNow 14 = .ok (.iaload, 1) := o_46 (u1_14 hc_X12_atNow_0 rfl) rfl
theorem dX12_atNow_15 : decode cX12_atNow 15 = .ok (.ireturn, 1) := o_172 (u1_15 hc_X12_atNow_0 rfl) rfl
theorem hc_X12_atNow_16 : ((bL cX12_atNow).drop 16).take 18 = [42, 27, 182, 0, 208, 61, 28, 16, 247, 160, 0, 8, 16, 247, 167, 0, 9, 42] := by decide +kernel
theorem dX12_atNow_16 : decode cX12_atNow 16 = .ok (.aload_n 0, 1) := o_42 (u1_0 hc_X12_atNow_16 rfl) rfl
theorem dX12_atNow_17 : decode cX12_atNow 17 = .ok (.iload_n 1, 1) := o_27 (u1_1 hc_X12_atNow_16 rfl) rfl
theorem dX12_atNow_18 : decode cX12_atNow 18 = .ok (.invokevirtual 208, 3) := o_182 (u1_2 hc_X12_atNow_16 rfl) (u2_d (u1_3 hc_X12_atNow_16 rfl) (u1_4 hc_X12_atNow_16 rfl) rfl) rfl
theorem dX12_atNow_21 : decode cX12_atNow 21 = .ok (.istore_n 2, 1) := o_61 (u1_5 hc_X12_atNow_16 rfl) rfl
theorem dX12_atNow_22 : decode cX12_atNow 22 = .ok (.iload_n 2, 1) := o_28 (u1_6 hc_X12_atNow_16 rfl) rfl
theorem dX12_atNow_23 : decode cX12_atNow 23 = .ok (.bipush (-9), 2) := o_16 (u1_7 hc_X12_atNow_16 rfl) (s1_d (u1_8 hc_X12_atNow_16 rfl) rfl) rfl
theorem dX12_atNow_25 : decode cX12_atNow 25 = .ok (.if_icmp .ne 8, 3) := o_160 (u1_9 hc_X12_atNow_16 rfl) (s2_d (u2_d (u1_10 hc_X12_atNow_16 rfl) (u1_11 hc_X12_atNow_16 rfl) rfl) rfl) rfl
theorem dX12_atNow_28 : decode cX12_atNow 28 = .ok (.bipush (-9), 2) := o_16 (u1_12 hc_X12_atNow_16 rfl) (s1_d (u1_13 hc_X12_atNow_16 rfl) rfl) rfl
theorem dX12_atNow_30 : decode cX12_atNow 30 = .ok (.goto 9, 3) := o_167 (u1_14 hc_X12_atNow_16 rfl) (s2_d (u2_d (u1_15 hc_X12_atNow_16 rfl) (u1_16 hc_X12_atNow_16 rfl) rfl) rfl) rfl
theorem hc_X12_atNow_32 : ((bL cX12_atNow).drop 32).take 18 = [9, 42, 180, 0, 31, 28, 46, 172] := by decide +kernel
theorem dX12_atNow_33 : decode cX12_atNow 33 = .ok (.aload_n 0, 1) := o_42 (u1_1 hc_X12_atNow_32 rfl) rfl
theorem dX12_atNow_34 : decode cX12_atNow 34 = .ok (.getfield 31, 3) := o_180 (u1_2 hc_X12_atNow_32 rfl) (u2_d (u1_3 hc_X12_atNow_32 rfl) (u1_4 hc_X12_atNow_32 rfl) rfl) rfl
theorem dX12_atNow_37 : decode cX12_atNow 37 = .ok (.iload_n 2, 1) := o_28 (u1_5 hc_X12_atNow_32 rfl) rfl
theorem dX12_atNow_38 : decode cX12_atNow 38 = .ok (.iaload, 1) := o_46 (u1_6 hc_X12_atNow_32 rfl) rfl
theorem dX12_atNow_39 : decode cX12_atNow 39 = .ok (.ireturn, 1) := o_172 (u1_7 hc_X12_atNow_32 rfl) rfl
theorem hc_X12_body_0 : ((bL cX12_body).drop 0).take 18 = [42, 180, 1, 38, 153, 0, 32, 42, 180, 1, 41, 16, 100, 162, 0, 23, 42, 180] := by decide +kernel
theorem dX12_body_0 : decode cX12_body 0 = .ok (.aload_n 0, 1) := o_42 (u1_0 hc_X12_body_0 rfl) rfl
theorem dX12_body_1 : decode cX12_body 1 = .ok (.getfield 294, 3) := o_180 (u1_1 hc_X12_body_0 rfl) (u2_d (u1_2 hc_X12_body_0 rfl) (u1_3 hc_X12_body_0 rfl) rfl) rfl
theorem dX12_body_4 : decode cX12_body 4 = .ok (.ifCond .eq 32, 3) := o_153 (u1_4 hc_X12_body_0 rfl) (s2_d (u2_d (u1_5 hc_X12_body_0 rfl) (u1_6 hc_X12_body_0 rfl) rfl) rfl) rfl
theorem dX12_body_7 : decode cX12_body 7 = .ok (.aload_n 0, 1) := o_42 (u1_7 hc_X12_body_0 rfl) rfl
theorem dX12_body_8 : decode cX12_body 8 = .ok (.getfield 297, 3) := o_180 (u1_8 hc_X12_body_0 rfl) (u2_d (u1_9 hc_X12_body_0 rfl) (u1_10 hc_X12_body_0 rfl) rfl) rfl
theorem dX12_body_11 : decode cX12_body 11 = .ok (.bipush 100, 2) := o_16 (u1_11 hc_X12_body_0 rfl) (s1_d (u1_12 hc_X12_body_0 rfl) rfl) rfl
theorem dX12_body_13 : decode cX12_body 13 = .ok (.if_icmp .ge 23, 3) := o_162 (u1_13 hc_X12_body_0 rfl) (s2_d (u2_d (u1_14 hc_X12_body_0 rfl) (u1_15 hc_X12_body_0 rfl) rfl) rfl) rfl
theorem hc_X12_body_16 : ((bL cX12_body).drop 16).take 18 = [42, 180, 0, 77, 42, 180, 1, 41, 27, 79, 42, 89, 180, 1, 41, 4, 96, 181] := by decide +kernel
theorem dX12_body_16 : decode cX12_body 16 = .ok (.aload_n 0, 1) := o_42 (u1_0 hc_X12_body_16 rfl) rfl
theorem dX12_body_17 : decode cX12_body 17 = .ok (.getfield 77, 3) := o_180 (u1_1 hc_X12_body_16 rfl) (u2_d (u1_2 hc_X12_body_16 rfl) (u1_3 hc_X12_body_16 rfl) rfl) rfl
theorem dX12_body_20 : decode cX12_body 20 = .ok (.aload_n 0, 1) := o_42 (u1_4 hc_X12_body_16 rfl) rfl
theorem dX12_body_21 : decode cX12_body 21 = .ok (.getfield 297, 3) := o_180 (u1_5 hc_X12_body_16 rfl) (u2_d (u1_6 hc_X12_body_16 rfl) (u1_7 hc_X12_body_16 rfl) rfl) rfl
theorem dX12_body_24 : decode cX12_body 24 = .ok (.iload_n 1, 1) := o_27 (u1_8 hc_X12_body_16 rfl) rfl
theorem dX12_body_25 : decode cX12_body 25 = .ok (.iastore, 1) := o_79 (u1_9 hc_X12_body_16 rfl) rfl
theorem dX12_body_26 : decode cX12_body 26 = .ok (.aload_n 0, 1) := o_42 (u1_10 hc_X12_body_16 rfl) rfl
theorem dX12_body_27 : decode cX12_body 27 = .ok (.dup, 1) := o_89 (u1_11 hc_X12_body_16 rfl) rfl
theorem dX12_body_28 : decode cX12_body 28 = .ok (.getfield 297, 3) := o_180 (u1_12 hc_X12_body_16 rfl) (u2_d (u1_13 hc_X12_body_16 rfl) (u1_14 hc_X12_body_16 rfl) rfl) rfl
theorem dX12_body_31 : decode cX12_body 31 = .ok (.iconst 1, 1) := o_4 (u1_15 hc_X12_body_16 rfl) rfl
theorem hc_X12_body_32 : ((bL cX12_body).drop 32).take 18 = [96, 181, 1, 41, 177] := by decide +kernel
theorem dX12_body_32 : decode cX12_body 32 = .ok (.iadd, 1) := o_96 (u1_0 hc_X12_body_32 rfl) rfl
theorem dX12_body_33 : decode cX12_body 33 = .ok (.putfield 297, 3) := o_181 (u1_1 hc_X12_body_32 rfl) (u2_d (u1_2 hc_X12_body_32 rfl) (u1_3 hc_X12_body_32 rfl) rfl) rfl
theorem dX12_body_36 : decode cX12_body 36 = .ok (.return_, 1) := o_177 (u1_4 hc_X12_body_32 rfl) rfl
theorem hc_X12_bulkOf_0 : ((bL cX12_bulkOf).drop 0).take 18 = [42, 27, 5, 182, 0, 184, 153, 0, 59, 42, 7, 182, 1, 44, 42, 4, 182, 1] := by decide +kernel
theorem dX12_bulkOf_0 : decode cX12_bulkOf 0 = .ok (.aload_n 0, 1) := o_42 (u1_0 hc_X12_bulkOf_0 rfl) rfl
theorem dX12_bulkOf_1 : decode cX12_bulkOf 1 = .ok (.iload_n 1, 1) := o_27 (u1_1 hc_X12_bulkOf_0 rfl) rfl
theorem dX12_bulkOf_2 : decode cX12_bulkOf 2 = .ok (.iconst 2, 1) := o_5 (u1_2 hc_X12_bulkOf_0 rfl) rfl
theorem dX12_bulkOf_3 : decode cX12_bulkOf 3 = .ok (.invokevirtual 184, 3) := o_182 (u1_3 hc_X12_bulkOf_0 rfl) (u2_d (u1_4 hc_X12_bulkOf_0 rfl) (u1_5 hc_X12_bulkOf_0 rfl) rfl) rfl
theorem dX12_bulkOf_6 : decode cX12_bulkOf 6 = .ok (.ifCond .eq 59, 3) := o_153 (u1_6 hc_X12_bulkOf_0 rfl) (s2_d (u2_d (u1_7 hc_X12_bulkOf_0 rfl) (u1_8 hc_X12_bulkOf_0 rfl) rfl) rfl) rfl
theorem dX12_bulkOf_9 : decode cX12_bulkOf 9 = .ok (.aload_n 0, 1) := o_42 (u1_9 hc_X12_bulkOf_0 rfl) rfl
theorem dX12_bulkOf_10 : decode cX12_bulkOf 10 = .ok (.iconst 4, 1) := o_7 (u1_10 hc_X12_bulkOf_0 rfl) rfl
theorem dX12_bulkOf_11 : decode cX12_bulkOf 11 = .ok (.invokevirtual 300, 3) := o_182 (u1_11 hc_X12_bulkOf_0 rfl) (u2_d (u1_12 hc_X12_bulkOf_0 rfl) (u1_13 hc_X12_bulkOf_0 rfl) rfl) rfl
theorem dX12_bulkOf_14 : decode cX12_bulkOf 14 = .ok (.aload_n 0, 1) := o_42 (u1_14 hc_X12_bulkOf_0 rfl) rfl
theorem dX12_bulkOf_15 : decode cX12_bulkOf 15 = .ok (.iconst 1, 1) := o_4 (u1_15 hc_X12_bulkOf_0 rfl) rfl
theorem hc_X12_bulkOf_16 : ((bL cX12_bulkOf).drop 16).take 18 = [182, 1, 44, 42, 89, 180, 1, 47, 42, 180, 0, 22, 27, 46, 154, 0, 7, 4] := by decide +kernel
theorem dX12_bulkOf_16 : decode cX12_bulkOf 16 = .ok (.invokevirtual 300, 3) := o_182 (u1_0 hc_X12_bulkOf_16 rfl) (u2_d (u1_1 hc_X12_bulkOf_16 rfl) (u1_2 hc_X12_bulkOf_16 rfl) rfl) rfl
theorem dX12_bulkOf_19 : decode cX12_bulkOf 19 = .ok (.aload_n 0, 1) := o_42 (u1_3 hc_X12_bulkOf_16 rfl) rfl
theorem dX12_bulkOf_20 : decode cX12_bulkOf 20 = .ok (.dup, 1) := o_89 (u1_4 hc_X12_bulkOf_16 rfl) rfl
theorem dX12_bulkOf_21 : decode cX12_bulkOf 21 = .ok (.getfield 303, 3) := o_180 (u1_5 hc_X12_bulkOf_16 rfl) (u2_d (u1_6 hc_X12_bulkOf_16 rfl) (u1_7 hc_X12_bulkOf_16 rfl) rfl) rfl
theorem dX12_bulkOf_24 : decode cX12_bulkOf 24 = .ok (.aload_n 0, 1) := o_42 (u1_8 hc_X12_bulkOf_16 rfl) rfl
theorem dX12_bulkOf_25 : decode cX12_bulkOf 25 = .ok (.getfield 22, 3) := o_180 (u1_9 hc_X12_bulkOf_16 rfl) (u2_d (u1_10 hc_X12_bulkOf_16 rfl) (u1_11 hc_X12_bulkOf_16 rfl) rfl) rfl
theorem dX12_bulkOf_28 : decode cX12_bulkOf 28 = .ok (.iload_n 1, 1) := o_27 (u1_12 hc_X12_bulkOf_16 rfl) rfl
theorem dX12_bulkOf_29 : decode cX12_bulkOf 29 = .ok (.iaload, 1) := o_46 (u1_13 hc_X12_bulkOf_16 rfl) rfl
theorem dX12_bulkOf_30 : decode cX12_bulkOf 30 = .ok (.ifCond .ne 7, 3) := o_154 (u1_14 hc_X12_bulkOf_16 rfl) (s2_d (u2_d (u1_15 hc_X12_bulkOf_16 rfl) (u1_16 hc_X12_bulkOf_16 rfl) rfl) rfl) rfl
theorem hc_X12_bulkOf_32 : ((bL cX12_bulkOf).drop 32).take 18 = [7, 4, 167, 0, 4, 3, 128, 181, 1, 47, 42, 180, 0, 22, 27, 46, 154, 0] := by decide +kernel
theorem dX12_bulkOf_33 : decode cX12_bulkOf 33 = .ok (.iconst 1, 1) := o_4 (u1_1 hc_X12_bulkOf_32 rfl) rfl
theorem dX12_bulkOf_34 : decode cX12_bulkOf 34 = .ok (.goto 4, 3) := o_167 (u1_2 hc_X12_bulkOf_32 rfl) (s2_d (u2_d (u1_3 hc_X12_bulkOf_32 rfl) (u1_4 hc_X12_bulkOf_32 rfl) rfl) rfl) rfl
theorem dX12_bulkOf_37 : decode cX12_bulkOf 37 = .ok (.iconst 0, 1) := o_3 (u1_5 hc_X12_bulkOf_32 rfl) rfl
theorem dX12_bulkOf_38 : decode cX12_bulkOf 38 = .ok (.ior, 1) := o_128 (u1_6 hc_X12_bulkOf_32 rfl) rfl
theorem dX12_bulkOf_39 : decode cX12_bulkOf 39 = .ok (.putfield 303, 3) := o_181 (u1_7 hc_X12_bulkOf_32 rfl) (u2_d (u1_8 hc_X12_bulkOf_32 rfl) (u1_9 hc_X12_bulkOf_32 rfl) rfl) rfl
theorem dX12_bulkOf_42 : decode cX12_bulkOf 42 = .ok (.aload_n 0, 1) := o_42 (u1_10 hc_X12_bulkOf_32 rfl) rfl
theorem dX12_bulkOf_43 : decode cX12_bulkOf 43 = .ok (.getfield 22, 3) := o_180 (u1_11 hc_X12_bulkOf_32 rfl) (u2_d (u1_12 hc_X12_bulkOf_32 rfl) (u1_13 hc_X12_bulkOf_32 rfl) rfl) rfl
theorem dX12_bulkOf_46 : decode cX12_bulkOf 46 = .ok (.iload_n 1, 1) := o_27 (u1_14 hc_X12_bulkOf_32 rfl) rfl
theorem dX12_bulkOf_47 : decode cX12_bulkOf 47 = .ok (.iaload, 1) := o_46 (u1_15 hc_X12_bulkOf_32 rfl) rfl
theorem hc_X12_bulkOf_48 : ((bL cX12_bulkOf).drop 48).take 18 = [154, 0, 7, 3, 167, 0, 12, 16, 100, 42, 180, 0, 22, 27, 46, 108, 172, 42] := by decide +kernel
theorem dX12_bulkOf_48 : decode cX12_bulkOf 48 = .ok (.ifCond .ne 7, 3) := o_154 (u1_0 hc_X12_bulkOf_48 rfl) (s2_d (u2_d (u1_1 hc_X12_bulkOf_48 rfl) (u1_2 hc_X12_bulkOf_48 rfl) rfl) rfl) rfl
theorem dX12_bulkOf_51 : decode cX12_bulkOf 51 = .ok (.iconst 0, 1) := o_3 (u1_3 hc_X12_bulkOf_48 rfl) rfl
theorem dX12_bulkOf_52 : decode cX12_bulkOf 52 = .ok (.goto 12, 3) := o_167 (u1_4 hc_X12_bulkOf_48 rfl) (s2_d (u2_d (u1_5 hc_X12_bulkOf_48 rfl) (u1_6 hc_X12_bulkOf_48 rfl) rfl) rfl) rfl
theorem dX12_bulkOf_55 : decode cX12_bulkOf 55 = .ok (.bipush 100, 2) := o_16 (u1_7 hc_X12_bulkOf_48 rfl) (s1_d (u1_8 hc_X12_bulkOf_48 rfl) rfl) rfl
theorem dX12_bulkOf_57 : decode cX12_bulkOf 57 = .ok (.aload_n 0, 1) := o_42 (u1_9 hc_X12_bulkOf_48 rfl) rfl
theorem dX12_bulkOf_58 : decode cX12_bulkOf 58 = .ok (.getfield 22, 3) := o_180 (u1_10 hc_X12_bulkOf_48 rfl) (u2_d (u1_11 hc_X12_bulkOf_48 rfl) (u1_12 hc_X12_bulkOf_48 rfl) rfl) rfl
theorem dX12_bulkOf_61 : decode cX12_bulkOf 61 = .ok (.iload_n 1, 1) := o_27 (u1_13 hc_X12_bulkOf_48 rfl) rfl
theorem dX12_bulkOf_62 : decode cX12_bulkOf 62 = .ok (.iaload, 1) := o_46 (u1_14 hc_X12_bulkOf_48 rfl) rfl
theorem dX12_bulkOf_63 : decode cX12_bulkOf 63 = .ok (.idiv, 1) := o_108 (u1_15 hc_X12_bulkOf_48 rfl) rfl
theorem hc_X12_bulkOf_64 : ((bL cX12_bulkOf).drop 64).take 18 = [172, 42, 3, 27, 182, 1, 50, 61, 3, 62, 29, 155, 0, 137, 42, 42, 180, 0] := by decide +kernel
theorem dX12_bulkOf_64 : decode cX12_bulkOf 64 = .ok (.ireturn, 1) := o_172 (u1_0 hc_X12_bulkOf_64 rfl) rfl
theorem dX12_bulkOf_65 : decode cX12_bulkOf 65 = .ok (.aload_n 0, 1) := o_42 (u1_1 hc_X12_bulkOf_64 rfl) rfl
theorem dX12_bulkOf_66 : decode cX12_bulkOf 66 = .ok (.iconst 0, 1) := o_3 (u1_2 hc_X12_bulkOf_64 rfl) rfl
theorem dX12_bulkOf_67 : decode cX12_bulkOf 67 = .ok (.iload_n 1, 1) := o_27 (u1_3 hc_X12_bulkOf_64 rfl) rfl
theorem dX12_bulkOf_68 : decode cX12_bulkOf 68 = .ok (.invokevirtual 306, 3) := o_182 (u1_4 hc_X12_bulkOf_64 rfl) (u2_d (u1_5 hc_X12_bulkOf_64 rfl) (u1_6 hc_X12_bulkOf_64 rfl) rfl) rfl
theorem dX12_bulkOf_71 : decode cX12_bulkOf 71 = .ok (.istore_n 2, 1) := o_61 (u1_7 hc_X12_bulkOf_64 rfl) rfl
theorem dX12_bulkOf_72 : decode cX12_bulkOf 72 = .ok (.iconst 0, 1) := o_3 (u1_8 hc_X12_bulkOf_64 rfl) rfl
theorem dX12_bulkOf_73 : decode cX12_bulkOf 73 = .ok (.istore_n 3, 1) := o_62 (u1_9 hc_X12_bulkOf_64 rfl) rfl
theorem dX12_bulkOf_74 : decode cX12_bulkOf 74 = .ok (.iload_n 3, 1) := o_29 (u1_10 hc_X12_bulkOf_64 rfl) rfl
theorem dX12_bulkOf_75 : decode cX12_bulkOf 75 = .ok (.ifCond .lt 137, 3) := o_155 (u1_11 hc_X12_bulkOf_64 rfl) (s2_d (u2_d (u1_12 hc_X12_bulkOf_64 rfl) (u1_13 hc_X12_bulkOf_64 rfl) rfl) rfl) rfl
theorem dX12_bulkOf_78 : decode cX12_bulkOf 78 = .ok (.aload_n 0, 1) := o_42 (u1_14 hc_X12_bulkOf_64 rfl) rfl
theorem dX12_bulkOf_79 : decode cX12_bulkOf 79 = .ok (.aload_n 0, 1) := o_42 (u1_15 hc_X12_bulkOf_64 rfl) rfl
theorem hc_X12_bulkOf_80 : ((bL cX12_bulkOf).drop 80).take 18 = [180, 0, 80, 29, 46, 6, 182, 0, 184, 153, 0, 7, 3, 167, 0, 23, 42, 42] := by decide +kernel
theorem dX12_bulkOf_80 : decode cX12_bulkOf 80 = .ok (.getfield 80, 3) := o_180 (u1_0 hc_X12_bulkOf_80 rfl) (u2_d (u1_1 hc_X12_bulkOf_80 rfl) (u1_2 hc_X12_bulkOf_80 rfl) rfl) rfl
theorem dX12_bulkOf_83 : decode cX12_bulkOf 83 = .ok (.iload_n 3, 1) := o_29 (u1_3 hc_X12_bulkOf_80 rfl) rfl
theorem dX12_bulkOf_84 : decode cX12_bulkOf 84 = .ok (.iaload, 1) := o_46 (u1_4 hc_X12_bulkOf_80 rfl) rfl
theorem dX12_bulkOf_85 : decode cX12_bulkOf 85 = .ok (.iconst 3, 1) := o_6 (u1_5 hc_X12_bulkOf_80 rfl) rfl
theorem dX12_bulkOf_86 : decode cX12_bulkOf 86 = .ok (.invokevirtual 184, 3) := o_182 (u1_6 hc_X12_bulkOf_80 rfl) (u2_d (u1_7 hc_X12_bulkOf_80 rfl) (u1_8 hc_X12_bulkOf_80 rfl) rfl) rfl
theorem dX12_bulkOf_89 : decode cX12_bulkOf 89 = .ok (.ifCond .eq 7, 3) := o_153 (u1_9 hc_X12_bulkOf_80 rfl) (s2_d (u2_d (u1_10 hc_X12_bulkOf_80 rfl) (u1_11 hc_X12_bulkOf_80 rfl) rfl) rfl) rfl
theorem dX12_bulkOf_92 : decode cX12_bulkOf 92 = .ok (.iconst 0, 1) := o_3 (u1_12 hc_X12_bulkOf_80 rfl) rfl
theorem dX12_bulkOf_93 : decode cX12_bulkOf 93 = .ok (.goto 23, 3) := o_167 (u1_13 hc_X12_bulkOf_80 rfl) (s2_d (u2_d (u1_14 hc_X12_bulkOf_80 rfl) (u1_15 hc_X12_bulkOf_80 rfl) rfl) rfl) rfl
theorem hc_X12_bulkOf_96 : ((bL cX12_bulkOf).drop 96).take 18 = [42, 42, 180, 0, 80, 29, 46, 7, 182, 0, 184, 153, 0, 7, 4, 167, 0, 5] := by decide +kernel
theorem dX12_bulkOf_96 : decode cX12_bulkOf 96 = .ok (.aload_n 0, 1) := o_42 (u1_0 hc_X12_bulkOf_96 rfl) rfl
theorem dX12_bulkOf_97 : decode cX12_bulkOf 97 = .ok (.aload_n 0, 1) := o_42 (u1_1 hc_X12_bulkOf_96 rfl) rfl
theorem dX12_bulkOf_98 : decode cX12_bulkOf 98 = .ok (.getfield 80, 3) := o_180 (u1_2 hc_X12_bulkOf_96 rfl) (u2_d (u1_3 hc_X12_bulkOf_96 rfl) (u1_4 hc_X12_bulkOf_96 rfl) rfl) rfl
theorem dX12_bulkOf_101 : decode cX12_bulkOf 101 = .ok (.iload_n 3, 1) := o_29 (u1_5 hc_X12_bulkOf_96 rfl) rfl
theorem dX12_bulkOf_102 : decode cX12_bulkOf 102 = .ok (.iaload, 1) := o_46 (u1_6 hc_X12_bulkOf_96 rfl) rfl
theorem dX12_bulkOf_103 : decode cX12_bulkOf 103 = .ok (.iconst 4, 1) := o_7 (u1_7 hc_X12_bulkOf_96 rfl) rfl
theorem dX12_bulkOf_104 : decode cX12_bulkOf 104 = .ok (.invokevirtual 184, 3) := o_182 (u1_8 hc_X12_bulkOf_96 rfl) (u2_d (u1_9 hc_X12_bulkOf_96 rfl) (u1_10 hc_X12_bulkOf_96 rfl) rfl) rfl
theorem dX12_bulkOf_107 : decode cX12_bulkOf 107 = .ok (.ifCond .eq 7, 3) := o_153 (u1_11 hc_X12_bulkOf_96 rfl) (s2_d (u2_d (u1_12 hc_X12_bulkOf_96 rfl) (u1_13 hc_X12_bulkOf_96 rfl) rfl) rfl) rfl
theorem dX12_bulkOf_110 : decode cX12_bulkOf 110 = .ok (.iconst 1, 1) := o_4 (u1_14 hc_X12_bulkOf_96 rfl) rfl
theorem dX12_bulkOf_111 : decode cX12_bulkOf 111 = .ok (.goto 5, 3) := o_167 (u1_15 hc_X12_bulkOf_96 rfl) (s2_d (u2_d (u1_16 hc_X12_bulkOf_96 rfl) (u1_17 hc_X12_bulkOf_96 rfl) rfl) rfl) rfl
theorem hc_X12_bulkOf_112 : ((bL cX12_bulkOf).drop 112).take 18 = [0, 5, 16, 247, 54, 4, 42, 180, 0, 83, 29, 46, 54, 5, 21, 5, 42, 180] := by decide +kernel
theorem dX12_bulkOf_114 : decode cX12_bulkOf 114 = .ok (.bipush (-9), 2) := o_16 (u1_2 hc_X12_bulkOf_112 rfl) (s1_d (u1_3 hc_X12_bulkOf_112 rfl) rfl) rfl
theorem dX12_bulkOf_116 : decode cX12_bulkOf 116 = .ok (.istore 4, 2) := o_54 (u1_4 hc_X12_bulkOf_112 rfl) (u1_5 hc_X12_bulkOf_112 rfl) rfl
theorem dX12_bulkOf_118 : decode cX12_bulkOf 118 = .ok (.aload_n 0, 1) := o_42 (u1_6 hc_X12_bulkOf_112 rfl) rfl
theorem dX12_bulkOf_119 : decode cX12_bulkOf 119 = .ok (.getfield 83, 3) := o_180 (u1_7 hc_X12_bulkOf_112 rfl) (u2_d (u1_8 hc_X12_bulkOf_112 rfl) (u1_9 hc_X12_bulkOf_112 rfl) rfl) rfl
theorem dX12_bulkOf_122 : decode cX12_bulkOf 122 = .ok (.iload_n 3, 1) := o_29 (u1_10 hc_X12_bulkOf_112 rfl) rfl
theorem dX12_bulkOf_123 : decode cX12_bulkOf 123 = .ok (.iaload, 1) := o_46 (u1_11 hc_X12_bulkOf_112 rfl) rfl
theorem dX12_bulkOf_124 : decode cX12_bulkOf 124 = .ok (.istore 5, 2) := o_54 (u1_12 hc_X12_bulkOf_112 rfl) (u1_13 hc_X12_bulkOf_112 rfl) rfl
theorem dX12_bulkOf_126 : decode cX12_bulkOf 126 = .ok (.iload 5, 2) := o_21 (u1_14 hc_X12_bulkOf_112 rfl) (u1_15 hc_X12_bulkOf_112 rfl) rfl
theorem hc_X12_bulkOf_128 : ((bL cX12_bulkOf).drop 128).take 18 = [42, 180, 0, 177, 162, 0, 42, 21, 4, 16, 247, 159, 0, 29, 42, 21, 5, 182] := by decide +kernel
theorem dX12_bulkOf_128 : decode cX12_bulkOf 128 = .ok (.aload_n 0, 1) := o_42 (u1_0 hc_X12_bulkOf_128 rfl) rfl
theorem dX12_bulkOf_129 : decode cX12_bulkOf 129 = .ok (.getfield 177, 3) := o_180 (u1_1 hc_X12_bulkOf_128 rfl) (u2_d (u1_2 hc_X12_bulkOf_128 rfl) (u1_3 hc_X12_bulkOf_128 rfl) rfl) rfl
theorem dX12_bulkOf_132 : decode cX12_bulkOf 132 = .ok (.if_icmp .ge 42, 3) := o_162 (u1_4 hc_X12_bulkOf_128 rfl) (s2_d (u2_d (u1_5 hc_X12_bulkOf_128 rfl) (u1_6 hc_X12_bulkOf_128 rfl) rfl) rfl) rfl
theorem dX12_bulkOf_135 : decode cX12_bulkOf 135 = .ok (.iload 4, 2) := o_21 (u1_7 hc_X12_bulkOf_128 rfl) (u1_8 hc_X12_bulkOf_128 rfl) rfl
theorem dX12_bulkOf_137 : decode cX12_bulkOf 137 = .ok (.bipush (-9), 2) := o_16 (u1_9 hc_X12_bulkOf_128 rfl) (s1_d (u1_10 hc_X12_bulkOf_128 rfl) rfl) rfl
theorem dX12_bulkOf_139 : decode cX12_bulkOf 139 = .ok (.if_icmp .eq 29, 3) := o_159 (u1_11 hc_X12_bulkOf_128 rfl) (s2_d (u2_d (u1_12 hc_X12_bulkOf_128 rfl) (u1_13 hc_X12_bulkOf_128 rfl) rfl) rfl) rfl
theorem dX12_bulkOf_142 : decode cX12_bulkOf 142 = .ok (.aload_n 0, 1) := o_42 (u1_14 hc_X12_bulkOf_128 rfl) rfl
theorem dX12_bulkOf_143 : decode cX12_bulkOf 143 = .ok (.iload 5, 2) := o_21 (u1_15 hc_X12_bulkOf_128 rfl) (u1_16 hc_X12_bulkOf_128 rfl) rfl
theorem hc_X12_bulkOf_144 : ((bL cX12_bulkOf).drop 144).take 18 = [5, 182, 1, 53, 21, 4, 160, 0, 18, 42, 21, 5, 182, 1, 56, 42, 180, 0] := by decide +kernel
theorem dX12_bulkOf_145 : decode cX12_bulkOf 145 = .ok (.invokevirtual 309, 3) := o_182 (u1_1 hc_X12_bulkOf_144 rfl) (u2_d (u1_2 hc_X12_bulkOf_144 rfl) (u1_3 hc_X12_bulkOf_144 rfl) rfl) rfl
theorem dX12_bulkOf_148 : decode cX12_bulkOf 148 = .ok (.iload 4, 2) := o_21 (u1_4 hc_X12_bulkOf_144 rfl) (u1_5 hc_X12_bulkOf_144 rfl) rfl
theorem dX12_bulkOf_150 : decode cX12_bulkOf 150 = .ok (.if_icmp .ne 18, 3) := o_160 (u1_6 hc_X12_bulkOf_144 rfl) (s2_d (u2_d (u1_7 hc_X12_bulkOf_144 rfl) (u1_8 hc_X12_bulkOf_144 rfl) rfl) rfl) rfl
theorem dX12_bulkOf_153 : decode cX12_bulkOf 153 = .ok (.aload_n 0, 1) := o_42 (u1_9 hc_X12_bulkOf_144 rfl) rfl
theorem dX12_bulkOf_154 : decode cX12_bulkOf 154 = .ok (.iload 5, 2) := o_21 (u1_10 hc_X12_bulkOf_144 rfl) (u1_11 hc_X12_bulkOf_144 rfl) rfl
theorem dX12_bulkOf_156 : decode cX12_bulkOf 156 = .ok (.invokevirtual 312, 3) := o_182 (u1_12 hc_X12_bulkOf_144 rfl) (u2_d (u1_13 hc_X12_bulkOf_144 rfl) (u1_14 hc_X12_bulkOf_144 rfl) rfl) rfl
theorem dX12_bulkOf_159 : decode cX12_bulkOf 159 = .ok (.aload_n 0, 1) := o_42 (u1_15 hc_X12_bulkOf_144 rfl) rfl
theorem hc_X12_bulkOf_160 : ((bL cX12_bulkOf).drop 160).take 18 = [180, 0, 80, 29, 46, 159, 0, 9, 132, 5, 1, 167, 255, 211, 42, 180, 0, 83] := by decide +kernel
theorem dX12_bulkOf_160 : decode cX12_bulkOf 160 = .ok (.getfield 80, 3) := o_180 (u1_0 hc_X12_bulkOf_160 rfl) (u2_d (u1_1 hc_X12_bulkOf_160 rfl) (u1_2 hc_X12_bulkOf_160 rfl) rfl) rfl
theorem dX12_bulkOf_163 : decode cX12_bulkOf 163 = .ok (.iload_n 3, 1) := o_29 (u1_3 hc_X12_bulkOf_160 rfl) rfl
theorem dX12_bulkOf_164 : decode cX12_bulkOf 164 = .ok (.iaload, 1) := o_46 (u1_4 hc_X12_bulkOf_160 rfl) rfl
theorem dX12_bulkOf_165 : decode cX12_bulkOf 165 = .ok (.if_icmp .eq 9, 3) := o_159 (u1_5 hc_X12_bulkOf_160 rfl) (s2_d (u2_d (u1_6 hc_X12_bulkOf_160 rfl) (u1_7 hc_X12_bulkOf_160 rfl) rfl) rfl) rfl
theorem dX12_bulkOf_168 : decode cX12_bulkOf 168 = .ok (.iinc 5 1, 3) := o_132 (u1_8 hc_X12_bulkOf_160 rfl) (u1_9 hc_X12_bulkOf_160 rfl) (s1_d (u1_10 hc_X12_bulkOf_160 rfl) rfl) rfl
theorem dX12_bulkOf_171 : decode cX12_bulkOf 171 = .ok (.goto (-45), 3) := o_167 (u1_11 hc_X12_bulkOf_160 rfl) (s2_d (u2_d (u1_12 hc_X12_bulkOf_160 rfl) (u1_13 hc_X12_bulkOf_160 rfl) rfl) rfl) rfl
theorem dX12_bulkOf_174 : decode cX12_bulkOf 174 = .ok (.aload_n 0, 1) := o_42 (u1_14 hc_X12_bulkOf_160 rfl) rfl
theorem dX12_bulkOf_175 : decode cX12_bulkOf 175 = .ok (.getfield 83, 3) := o_180 (u1_15 hc_X12_bulkOf_160 rfl) (u2_d (u1_16 hc_X12_bulkOf_160 rfl) (u1_17 hc_X12_bulkOf_160 rfl) rfl) rfl
theorem hc_X12_bulkOf_176 : ((bL cX12_bulkOf).drop 176).take 18 = [0, 83, 29, 21, 5, 4, 96, 79, 132, 3, 255, 21, 5, 42, 180, 0, 177, 162] := by decide +kernel
theorem dX12_bulkOf_178 : decode cX12_bulkOf 178 = .ok (.iload_n 3, 1) := o_29 (u1_2 hc_X12_bulkOf_176 rfl) rfl
theorem dX12_bulkOf_179 : decode cX12_bulkOf 179 = .ok (.iload 5, 2) := o_21 (u1_3 hc_X12_bulkOf_176 rfl) (u1_4 hc_X12_bulkOf_176 rfl) rfl
theorem dX12_bulkOf_181 : decode cX12_bulkOf 181 = .ok (.iconst 1, 1) := o_4 (u1_5 hc_X12_bulkOf_176 rfl) rfl
theorem dX12_bulkOf_182 : decode cX12_bulkOf 182 = .ok (.iadd, 1) := o_96 (u1_6 hc_X12_bulkOf_176 rfl) rfl
theorem dX12_bulkOf_183 : decode cX12_bulkOf 183 = .ok (.iastore, 1) := o_79 (u1_7 hc_X12_bulkOf_176 rfl) rfl
theorem dX12_bulkOf_184 : decode cX12_bulkOf 184 = .ok (.iinc 3 (-1), 3) := o_132 (u1_8 hc_X12_bulkOf_176 rfl) (u1_9 hc_X12_bulkOf_176 rfl) (s1_d (u1_10 hc_X12_bulkOf_176 rfl) rfl) rfl
theorem dX12_bulkOf_187 : decode cX12_bulkOf 187 = .ok (.iload 5, 2) := o_21 (u1_11 hc_X12_bulkOf_176 rfl) (u1_12 hc_X12_bulkOf_176 rfl) rfl
theorem dX12_bulkOf_189 : decode cX12_bulkOf 189 = .ok (.aload_n 0, 1) := o_42 (u1_13 hc_X12_bulkOf_176 rfl) rfl
theorem dX12_bulkOf_190 : decode cX12_bulkOf 190 = .ok (.getfield 177, 3) := o_180 (u1_14 hc_X12_bulkOf_176 rfl) (u2_d (u1_15 hc_X12_bulkOf_176 rfl) (u1_16 hc_X12_bulkOf_176 rfl) rfl) rfl
theorem hc_X12_bulkOf_192 : ((bL cX12_bulkOf).drop 192).take 18 = [177, 162, 0, 16, 132, 3, 2, 28, 42, 29, 21, 5, 182, 1, 50, 96, 61, 167] := by decide +kernel
theorem dX12_bulkOf_193 : decode cX12_bulkOf 193 = .ok (.if_icmp .ge 16, 3) := o_162 (u1_1 hc_X12_bulkOf_192 rfl) (s2_d (u2_d (u1_2 hc_X12_bulkOf_192 rfl) (u1_3 hc_X12_bulkOf_192 rfl) rfl) rfl) rfl
theorem dX12_bulkOf_196 : decode cX12_bulkOf 196 = .ok (.iinc 3 2, 3) := o_132 (u1_4 hc_X12_bulkOf_192 rfl) (u1_5 hc_X12_bulkOf_192 rfl) (s1_d (u1_6 hc_X12_bulkOf_192 rfl) rfl) rfl
theorem dX12_bulkOf_199 : decode cX12_bulkOf 199 = .ok (.iload_n 2, 1) := o_28 (u1_7 hc_X12_bulkOf_192 rfl) rfl
theorem dX12_bulkOf_200 : decode cX12_bulkOf 200 = .ok (.aload_n 0, 1) := o_42 (u1_8 hc_X12_bulkOf_192 rfl) rfl
theorem dX12_bulkOf_201 : decode cX12_bulkOf 201 = .ok (.iload_n 3, 1) := o_29 (u1_9 hc_X12_bulkOf_192 rfl) rfl
theorem dX12_bulkOf_202 : decode cX12_bulkOf 202 = .ok (.iload 5, 2) := o_21 (u1_10 hc_X12_bulkOf_192 rfl) (u1_11 hc_X12_bulkOf_192 rfl) rfl
theorem dX12_bulkOf_204 : decode cX12_bulkOf 204 = .ok (.invokevirtual 306, 3) := o_182 (u1_12 hc_X12_bulkOf_192 rfl) (u2_d (u1_13 hc_X12_bulkOf_192 rfl) (u1_14 hc_X12_bulkOf_192 rfl) rfl) rfl
theorem dX12_bulkOf_207 : decode cX12_bulkOf 207 = .ok (.iadd, 1) := o_96 (u1_15 hc_X12_bulkOf_192 rfl) rfl
theorem hc_X12_bulkOf_208 : ((bL cX12_bulkOf).drop 208).take 18 = [61, 167, 255, 121, 28, 172] := by decide +kernel
theorem dX12_bulkOf_208 : decode cX12_bulkOf 208 = .ok (.istore_n 2, 1) := o_61 (u1_0 hc_X12_bulkOf_208 rfl) rfl
theorem dX12_bulkOf_209 : decode cX12_bulkOf 209 = .ok (.goto (-135), 3) := o_167 (u1_1 hc_X12_bulkOf_208 rfl) (s2_d (u2_d (u1_2 hc_X12_bulkOf_208 rfl) (u1_3 hc_X12_bulkOf_208 rfl) rfl) rfl) rfl
theorem dX12_bulkOf_212 : decode cX12_bulkOf 212 = .ok (.iload_n 2, 1) := o_28 (u1_4 hc_X12_bulkOf_208 rfl) rfl
theorem dX12_bulkOf_213 : decode cX12_bulkOf 213 = .ok (.ireturn, 1) := o_172 (u1_5 hc_X12_bulkOf_208 rfl) rfl
theorem hc_X12_beginBulk_0 : ((bL cX12_beginBulk).drop 0).take 18 = [42, 180, 0, 80, 27, 28, 79, 42, 180, 0, 83, 27, 3, 79, 42, 28, 6, 182] := by decide +kernel
theorem dX12_beginBulk_0 : decode cX12_beginBulk 0 = .ok (.aload_n 0, 1) := o_42 (u1_0 hc_X12_beginBulk_0 rfl) rfl
theorem dX12_beginBulk_1 : decode cX12_beginBulk 1 = .ok (.getfield 80, 3) := o_180 (u1_1 hc_X12_beginBulk_0 rfl) (u2_d (u1_2 hc_X12_beginBulk_0 rfl) (u1_3 hc_X12_beginBulk_0 rfl) rfl) rfl
theorem dX12_beginBulk_4 : decode cX12_beginBulk 4 = .ok (.iload_n 1, 1) := o_27 (u1_4 hc_X12_beginBulk_0 rfl) rfl
theorem dX12_beginBulk_5 : decode cX12_beginBulk 5 = .ok (.iload_n 2, 1) := o_28 (u1_5 hc_X12_beginBulk_0 rfl) rfl
theorem dX12_beginBulk_6 : decode cX12_beginBulk 6 = .ok (.iastore, 1) := o_79 (u1_6 hc_X12_beginBulk_0 rfl) rfl
theorem dX12_beginBulk_7 : decode cX12_beginBulk 7 = .ok (.aload_n 0, 1) := o_42 (u1_7 hc_X12_beginBulk_0 rfl) rfl
theorem dX12_beginBulk_8 : decode cX12_beginBulk 8 = .ok (.getfield 83, 3) := o_180 (u1_8 hc_X12_beginBulk_0 rfl) (u2_d (u1_9 hc_X12_beginBulk_0 rfl) (u1_10 hc_X12_beginBulk_0 rfl) rfl) rfl
theorem dX12_beginBulk_11 : decode cX12_beginBulk 11 = .ok (.iload_n 1, 1) := o_27 (u1_11 hc_X12_beginBulk_0 rfl) rfl
theorem dX12_beginBulk_12 : decode cX12_beginBulk 12 = .ok (.iconst 0, 1) := o_3 (u1_12 hc_X12_beginBulk_0 rfl) rfl
theorem dX12_beginBulk_13 : decode cX12_beginBulk 13 = .ok (.iastore, 1) := o_79 (u1_13 hc_X12_beginBulk_0 rfl) rfl
theorem dX12_beginBulk_14 : decode cX12_beginBulk 14 = .ok (.aload_n 0, 1) := o_42 (u1_14 hc_X12_beginBulk_0 rfl) rfl
theorem dX12_beginBulk_15 : decode cX12_beginBulk 15 = .ok (.iload_n 2, 1) := o_28 (u1_15 hc_X12_beginBulk_0 rfl) rfl
theorem hc_X12_beginBulk_16 : ((bL cX12_beginBulk).drop 16).take 18 = [6, 182, 0, 184, 153, 0, 11, 42, 5, 182, 1, 44, 167, 0, 34, 42, 28, 7] := by decide +kernel
theorem dX12_beginBulk_16 : decode cX12_beginBulk 16 = .ok (.iconst 3, 1) := o_6 (u1_0 hc_X12_beginBulk_16 rfl) rfl
theorem dX12_beginBulk_17 : decode cX12_beginBulk 17 = .ok (.invokevirtual 184, 3) := o_182 (u1_1 hc_X12_beginBulk_16 rfl) (u2_d (u1_2 hc_X12_beginBulk_16 rfl) (u1_3 hc_X12_beginBulk_16 rfl) rfl) rfl
theorem dX12_beginBulk_20 : decode cX12_beginBulk 20 = .ok (.ifCond .eq 11, 3) := o_153 (u1_4 hc_X12_beginBulk_16 rfl) (s2_d (u2_d (u1_5 hc_X12_beginBulk_16 rfl) (u1_6 hc_X12_beginBulk_16 rfl) rfl) rfl) rfl
theorem dX12_beginBulk_23 : decode cX12_beginBulk 23 = .ok (.aload_n 0, 1) := o_42 (u1_7 hc_X12_beginBulk_16 rfl) rfl
theorem dX12_beginBulk_24 : decode cX12_beginBulk 24 = .ok (.iconst 2, 1) := o_5 (u1_8 hc_X12_beginBulk_16 rfl) rfl
theorem dX12_beginBulk_25 : decode cX12_beginBulk 25 = .ok (.invokevirtual 300, 3) := o_182 (u1_9 hc_X12_beginBulk_16 rfl) (u2_d (u1_10 hc_X12_beginBulk_16 rfl) (u1_11 hc_X12_beginBulk_16 rfl) rfl) rfl
theorem dX12_beginBulk_28 : decode cX12_beginBulk 28 = .ok (.goto 34, 3) := o_167 (u1_12 hc_X12_beginBulk_16 rfl) (s2_d (u2_d (u1_13 hc_X12_beginBulk_16 rfl) (u1_14 hc_X12_beginBulk_16 rfl) rfl) rfl) rfl
theorem dX12_beginBulk_31 : decode cX12_beginBulk 31 = .ok (.aload_n 0, 1) := o_42 (u1_15 hc_X12_beginBulk_16 rfl) rfl
theorem hc_X12_beginBulk_32 : ((bL cX12_beginBulk).drop 32).take 18 = [28, 7, 182, 0, 184, 153, 0, 11, 42, 6, 182, 1, 44, 167, 0, 17, 42, 28] := by decide +kernel
theorem dX12_beginBulk_32 : decode cX12_beginBulk 32 = .ok (.iload_n 2, 1) := o_28 (u1_0 hc_X12_beginBulk_32 rfl) rfl
theorem dX12_beginBulk_33 : decode cX12_beginBulk 33 = .ok (.iconst 4, 1) := o_7 (u1_1 hc_X12_beginBulk_32 rfl) rfl
theorem dX12_beginBulk_34 : decode cX12_beginBulk 34 = .ok (.invokevirtual 184, 3) := o_182 (u1_2 hc_X12_beginBulk_32 rfl) (u2_d (u1_3 hc_X12_beginBulk_32 rfl) (u1_4 hc_X12_beginBulk_32 rfl) rfl) rfl
theorem dX12_beginBulk_37 : decode cX12_beginBulk 37 = .ok (.ifCond .eq 11, 3) := o_153 (u1_5 hc_X12_beginBulk_32 rfl) (s2_d (u2_d (u1_6 hc_X12_beginBulk_32 rfl) (u1_7 hc_X12_beginBulk_32 rfl) rfl) rfl) rfl
theorem dX12_beginBulk_40 : decode cX12_beginBulk 40 = .ok (.aload_n 0, 1) := o_42 (u1_8 hc_X12_beginBulk_32 rfl) rfl
theorem dX12_beginBulk_41 : decode cX12_beginBulk 41 = .ok (.iconst 3, 1) := o_6 (u1_9 hc_X12_beginBulk_32 rfl) rfl
theorem dX12_beginBulk_42 : decode cX12_beginBulk 42 = .ok (.invokevirtual 300, 3) := o_182 (u1_10 hc_X12_beginBulk_32 rfl) (u2_d (u1_11 hc_X12_beginBulk_32 rfl) (u1_12 hc_X12_beginBulk_32 rfl) rfl) rfl
theorem dX12_beginBulk_45 : decode cX12_beginBulk 45 = .ok (.goto 17, 3) := o_167 (u1_13 hc_X12_beginBulk_32 rfl) (s2_d (u2_d (u1_14 hc_X12_beginBulk_32 rfl) (u1_15 hc_X12_beginBulk_32 rfl) rfl) rfl) rfl
theorem hc_X12_beginBulk_48 : ((bL cX12_beginBulk).drop 48).take 18 = [42, 28, 8, 182, 0, 184, 153, 0, 8, 42, 8, 182, 1, 44, 42, 4, 182, 1] := by decide +kernel
theorem dX12_beginBulk_48 : decode cX12_beginBulk 48 = .ok (.aload_n 0, 1) := o_42 (u1_0 hc_X12_beginBulk_48 rfl) rfl
theorem dX12_beginBulk_49 : decode cX12_beginBulk 49 = .ok (.iload_n 2, 1) := o_28 (u1_1 hc_X12_beginBulk_48 rfl) rfl
theorem dX12_beginBulk_50 : decode cX12_beginBulk 50 = .ok (.iconst 5, 1) := o_8 (u1_2 hc_X12_beginBulk_48 rfl) rfl
theorem dX12_beginBulk_51 : decode cX12_beginBulk 51 = .ok (.invokevirtual 184, 3) := o_182 (u1_3 hc_X12_beginBulk_48 rfl) (u2_d (u1_4 hc_X12_beginBulk_48 rfl) (u1_5 hc_X12_beginBulk_48 rfl) rfl) rfl
theorem dX12_beginBulk_54 : decode cX12_beginBulk 54 = .ok (.ifCond .eq 8, 3) := o_153 (u1_6 hc_X12_beginBulk_48 rfl) (s2_d (u2_d (u1_7 hc_X12_beginBulk_48 rfl) (u1_8 hc_X12_beginBulk_48 rfl) rfl) rfl) rfl
theorem dX12_beginBulk_57 : decode cX12_beginBulk 57 = .ok (.aload_n 0, 1) := o_42 (u1_9 hc_X12_beginBulk_48 rfl) rfl
theorem dX12_beginBulk_58 : decode cX12_beginBulk 58 = .ok (.iconst 5, 1) := o_8 (u1_10 hc_X12_beginBulk_48 rfl) rfl
theorem dX12_beginBulk_59 : decode cX12_beginBulk 59 = .ok (.invokevirtual 300, 3) := o_182 (u1_11 hc_X12_beginBulk_48 rfl) (u2_d (u1_12 hc_X12_beginBulk_48 rfl) (u1_13 hc_X12_beginBulk_48 rfl) rfl) rfl
theorem dX12_beginBulk_62 : decode cX12_beginBulk 62 = .ok (.aload_n 0, 1) := o_42 (u1_14 hc_X12_beginBulk_48 rfl) rfl
theorem dX12_beginBulk_63 : decode cX12_beginBulk 63 = .ok (.iconst 1, 1) := o_4 (u1_15 hc_X12_beginBulk_48 rfl) rfl
theorem hc_X12_beginBulk_64 : ((bL cX12_beginBulk).drop 64).take 18 = [182, 1, 44, 42, 28, 8, 182, 0, 184, 153, 0, 14, 5, 42, 180, 0, 22, 28] := by decide +kernel
theorem dX12_beginBulk_64 : decode cX12_beginBulk 64 = .ok (.invokevirtual 300, 3) := o_182 (u1_0 hc_X12_beginBulk_64 rfl) (u2_d (u1_1 hc_X12_beginBulk_64 rfl) (u1_2 hc_X12_beginBulk_64 rfl) rfl) rfl
theorem dX12_beginBulk_67 : decode cX12_beginBulk 67 = .ok (.aload_n 0, 1) := o_42 (u1_3 hc_X12_beginBulk_64 rfl) rfl
theorem dX12_beginBulk_68 : decode cX12_beginBulk 68 = .ok (.iload_n 2, 1) := o_28 (u1_4 hc_X12_beginBulk_64 rfl) rfl
theorem dX12_beginBulk_69 : decode cX12_beginBulk 69 = .ok (.iconst 5, 1) := o_8 (u1_5 hc_X12_beginBulk_64 rfl) rfl
theorem dX12_beginBulk_70 : decode cX12_beginBulk 70 = .ok (.invokevirtual 184, 3) := o_182 (u1_6 hc_X12_beginBulk_64 rfl) (u2_d (u1_7 hc_X12_beginBulk_64 rfl) (u1_8 hc_X12_beginBulk_64 rfl) rfl) rfl
theorem dX12_beginBulk_73 : decode cX12_beginBulk 73 = .ok (.ifCond .eq 14, 3) := o_153 (u1_9 hc_X12_beginBulk_64 rfl) (s2_d (u2_d (u1_10 hc_X12_beginBulk_64 rfl) (u1_11 hc_X12_beginBulk_64 rfl) rfl) rfl) rfl
theorem dX12_beginBulk_76 : decode cX12_beginBulk 76 = .ok (.iconst 2, 1) := o_5 (u1_12 hc_X12_beginBulk_64 rfl) rfl
theorem dX12_beginBulk_77 : decode cX12_beginBulk 77 = .ok (.aload_n 0, 1) := o_42 (u1_13 hc_X12_beginBulk_64 rfl) rfl
theorem dX12_beginBulk_78 : decode cX12_beginBulk 78 = .ok (.getfield 22, 3) := o_180 (u1_14 hc_X12_beginBulk_64 rfl) (u2_d (u1_15 hc_X12_beginBulk_64 rfl) (u1_16 hc_X12_beginBulk_64 rfl) rfl) rfl
theorem hc_X12_beginBulk_80 : ((bL cX12_beginBulk).drop 80).take 18 = [22, 28, 46, 104, 167, 0, 9, 42, 180, 0, 22, 28, 46, 172] := by decide +kernel
theorem dX12_beginBulk_81 : decode cX12_beginBulk 81 = .ok (.iload_n 2, 1) := o_28 (u1_1 hc_X12_beginBulk_80 rfl) rfl
theorem dX12_beginBulk_82 : decode cX12_beginBulk 82 = .ok (.iaload, 1) := o_46 (u1_2 hc_X12_beginBulk_80 rfl) rfl
theorem dX12_beginBulk_83 : decode cX12_beginBulk 83 = .ok (.imul, 1) := o_104 (u1_3 hc_X12_beginBulk_80 rfl) rfl
theorem dX12_beginBulk_84 : decode cX12_beginBulk 84 = .ok (.goto 9, 3) := o_167 (u1_4 hc_X12_beginBulk_80 rfl) (s2_d (u2_d (u1_5 hc_X12_beginBulk_80 rfl) (u1_6 hc_X12_beginBulk_80 rfl) rfl) rfl) rfl
theorem dX12_beginBulk_87 : decode cX12_beginBulk 87 = .ok (.aload_n 0, 1) := o_42 (u1_7 hc_X12_beginBulk_80 rfl) rfl
theorem dX12_beginBulk_88 : decode cX12_beginBulk 88 = .ok (.getfield 22, 3) := o_180 (u1_8 hc_X12_beginBulk_80 rfl) (u2_d (u1_9 hc_X12_beginBulk_80 rfl) (u1_10 hc_X12_beginBulk_80 rfl) rfl) rfl
theorem dX12_beginBulk_91 : decode cX12_beginBulk 91 = .ok (.iload_n 2, 1) := o_28 (u1_11 hc_X12_beginBulk_80 rfl) rfl
theorem dX12_beginBulk_92 : decode cX12_beginBulk 92 = .ok (.iaload, 1) := o_46 (u1_12 hc_X12_beginBulk_80 rfl) rfl
theorem dX12_beginBulk_93 : decode cX12_beginBulk 93 = .ok (.ireturn, 1) := o_172 (u1_13 hc_X12_beginBulk_80 rfl) rfl
theorem hc_X12_bulk_0 : ((bL cX12_bulk).drop 0).take 18 = [42, 27, 182, 0, 180, 154, 0, 5, 2, 172, 42, 3, 181, 1, 41, 42, 27, 3] := by decide +kernel
theorem dX12_bulk_0 : decode cX12_bulk 0 = .ok (.aload_n 0, 1) := o_42 (u1_0 hc_X12_bulk_0 rfl) rfl
theorem dX12_bulk_1 : decode cX12_bulk 1 = .ok (.iload_n 1, 1) := o_27 (u1_1 hc_X12_bulk_0 rfl) rfl
theorem dX12_bulk_2 : decode cX12_bulk 2 = .ok (.invokevirtual 180, 3) := o_182 (u1_2 hc_X12_bulk_0 rfl) (u2_d (u1_3 hc_X12_bulk_0 rfl) (u1_4 hc_X12_bulk_0 rfl) rfl) rfl
theorem dX12_bulk_5 : decode cX12_bulk 5 = .ok (.ifCond .ne 5, 3) := o_154 (u1_5 hc_X12_bulk_0 rfl) (s2_d (u2_d (u1_6 hc_X12_bulk_0 rfl) (u1_7 hc_X12_bulk_0 rfl) rfl) rfl) rfl
theorem dX12_bulk_8 : decode cX12_bulk 8 = .ok (.iconst (-1), 1) := o_2 (u1_8 hc_X12_bulk_0 rfl) rfl
theorem dX12_bulk_9 : decode cX12_bulk 9 = .ok (.ireturn, 1) := o_172 (u1_9 hc_X12_bulk_0 rfl) rfl
theorem dX12_bulk_10 : decode cX12_bulk 10 = .ok (.aload_n 0, 1) := o_42 (u1_10 hc_X12_bulk_0 rfl) rfl
theorem dX12_bulk_11 : decode cX12_bulk 11 = .ok (.iconst 0, 1) := o_3 (u1_11 hc_X12_bulk_0 rfl) rfl
theorem dX12_bulk_12 : decode cX12_bulk 12 = .ok (.putfield 297, 3) := o_181 (u1_12 hc_X12_bulk_0 rfl) (u2_d (u1_13 hc_X12_bulk_0 rfl) (u1_14 hc_X12_bulk_0 rfl) rfl) rfl
theorem dX12_bulk_15 : decode cX12_bulk 15 = .ok (.aload_n 0, 1) := o_42 (u1_15 hc_X12_bulk_0 rfl) rfl
theorem hc_X12_bulk_16 : ((bL cX12_bulk).drop 16).take 18 = [27, 3, 182, 0, 184, 153, 0, 9, 42, 6, 182, 0, 233, 172, 42, 4, 181, 1] := by decide +kernel
theorem dX12_bulk_16 : decode cX12_bulk 16 = .ok (.iload_n 1, 1) := o_27 (u1_0 hc_X12_bulk_16 rfl) rfl
theorem dX12_bulk_17 : decode cX12_bulk 17 = .ok (.iconst 0, 1) := o_3 (u1_1 hc_X12_bulk_16 rfl) rfl
theorem dX12_bulk_18 : decode cX12_bulk 18 = .ok (.invokevirtual 184, 3) := o_182 (u1_2 hc_X12_bulk_16 rfl) (u2_d (u1_3 hc_X12_bulk_16 rfl) (u1_4 hc_X12_bulk_16 rfl) rfl) rfl
theorem dX12_bulk_21 : decode cX12_bulk 21 = .ok (.ifCond .eq 9, 3) := o_153 (u1_5 hc_X12_bulk_16 rfl) (s2_d (u2_d (u1_6 hc_X12_bulk_16 rfl) (u1_7 hc_X12_bulk_16 rfl) rfl) rfl) rfl
theorem dX12_bulk_24 : decode cX12_bulk 24 = .ok (.aload_n 0, 1) := o_42 (u1_8 hc_X12_bulk_16 rfl) rfl
theorem dX12_bulk_25 : decode cX12_bulk 25 = .ok (.iconst 3, 1) := o_6 (u1_9 hc_X12_bulk_16 rfl) rfl
theorem dX12_bulk_26 : decode cX12_bulk 26 = .ok (.invokevirtual 233, 3) := o_182 (u1_10 hc_X12_bulk_16 rfl) (u2_d (u1_11 hc_X12_bulk_16 rfl) (u1_12 hc_X12_bulk_16 rfl) rfl) rfl
theorem dX12_bulk_29 : decode cX12_bulk 29 = .ok (.ireturn, 1) := o_172 (u1_13 hc_X12_bulk_16 rfl) rfl
theorem dX12_bulk_30 : decode cX12_bulk 30 = .ok (.aload_n 0, 1) := o_42 (u1_14 hc_X12_bulk_16 rfl) rfl
theorem dX12_bulk_31 : decode cX12_bulk 31 = .ok (.iconst 1, 1) := o_4 (u1_15 hc_X12_bulk_16 rfl) rfl
theorem hc_X12_bulk_32 : ((bL cX12_bulk).drop 32).take 18 = [181, 1, 38, 42, 3, 181, 1, 47, 42, 27, 182, 1, 59, 61, 42, 3, 181, 1] := by decide +kernel
theorem dX12_bulk_32 : decode cX12_bulk 32 = .ok (.putfield 294, 3) := o_181 (u1_0 hc_X12_bulk_32 rfl) (u2_d (u1_1 hc_X12_bulk_32 rfl) (u1_2 hc_X12_bulk_32 rfl) rfl) rfl
theorem dX12_bulk_35 : decode cX12_bulk 35 = .ok (.aload_n 0, 1) := o_42 (u1_3 hc_X12_bulk_32 rfl) rfl
theorem dX12_bulk_36 : decode cX12_bulk 36 = .ok (.iconst 0, 1) := o_3 (u1_4 hc_X12_bulk_32 rfl) rfl
theorem dX12_bulk_37 : decode cX12_bulk 37 = .ok (.putfield 303, 3) := o_181 (u1_5 hc_X12_bulk_32 rfl) (u2_d (u1_6 hc_X12_bulk_32 rfl) (u1_7 hc_X12_bulk_32 rfl) rfl) rfl
theorem dX12_bulk_40 : decode cX12_bulk 40 = .ok (.aload_n 0, 1) := o_42 (u1_8 hc_X12_bulk_32 rfl) rfl
theorem dX12_bulk_41 : decode cX12_bulk 41 = .ok (.iload_n 1, 1) := o_27 (u1_9 hc_X12_bulk_32 rfl) rfl
theorem dX12_bulk_42 : decode cX12_bulk 42 = .ok (.invokevirtual 315, 3) := o_182 (u1_10 hc_X12_bulk_32 rfl) (u2_d (u1_11 hc_X12_bulk_32 rfl) (u1_12 hc_X12_bulk_32 rfl) rfl) rfl
theorem dX12_bulk_45 : decode cX12_bulk 45 = .ok (.istore_n 2, 1) := o_61 (u1_13 hc_X12_bulk_32 rfl) rfl
theorem dX12_bulk_46 : decode cX12_bulk 46 = .ok (.aload_n 0, 1) := o_42 (u1_14 hc_X12_bulk_32 rfl) rfl
theorem dX12_bulk_47 : decode cX12_bulk 47 = .ok (.iconst 0, 1) := o_3 (u1_15 hc_X12_bulk_32 rfl) rfl
theorem hc_X12_bulk_48 : ((bL cX12_bulk).drop 48).take 18 = [181, 1, 38, 42, 180, 1, 47, 153, 0, 9, 42, 7, 182, 0, 233, 172, 42, 28] := by decide +kernel
theorem dX12_bulk_48 : decode cX12_bulk 48 = .ok (.putfield 294, 3) := o_181 (u1_0 hc_X12_bulk_48 rfl) (u2_d (u1_1 hc_X12_bulk_48 rfl) (u1_2 hc_X12_bulk_48 rfl) rfl) rfl
theorem dX12_bulk_51 : decode cX12_bulk 51 = .ok (.aload_n 0, 1) := o_42 (u1_3 hc_X12_bulk_48 rfl) rfl
theorem dX12_bulk_52 : decode cX12_bulk 52 = .ok (.getfield 303, 3) := o_180 (u1_4 hc_X12_bulk_48 rfl) (u2_d (u1_5 hc_X12_bulk_48 rfl) (u1_6 hc_X12_bulk_48 rfl) rfl) rfl
theorem dX12_bulk_55 : decode cX12_bulk 55 = .ok (.ifCond .eq 9, 3) := o_153 (u1_7 hc_X12_bulk_48 rfl) (s2_d (u2_d (u1_8 hc_X12_bulk_48 rfl) (u1_9 hc_X12_bulk_48 rfl) rfl) rfl) rfl
theorem dX12_bulk_58 : decode cX12_bulk 58 = .ok (.aload_n 0, 1) := o_42 (u1_10 hc_X12_bulk_48 rfl) rfl
theorem dX12_bulk_59 : decode cX12_bulk 59 = .ok (.iconst 4, 1) := o_7 (u1_11 hc_X12_bulk_48 rfl) rfl
theorem dX12_bulk_60 : decode cX12_bulk 60 = .ok (.invokevirtual 233, 3) := o_182 (u1_12 hc_X12_bulk_48 rfl) (u2_d (u1_13 hc_X12_bulk_48 rfl) (u1_14 hc_X12_bulk_48 rfl) rfl) rfl
theorem dX12_bulk_63 : decode cX12_bulk 63 = .ok (.ireturn, 1) := o_172 (u1_15 hc_X12_bulk_48 rfl) rfl
theorem hc_X12_bulk_64 : ((bL cX12_bulk).drop 64).take 18 = [42, 28, 133, 181, 1, 62, 4, 172] := by decide +kernel
theorem dX12_bulk_64 : decode cX12_bulk 64 = .ok (.aload_n 0, 1) := o_42 (u1_0 hc_X12_bulk_64 rfl) rfl
theorem dX12_bulk_65 : decode cX12_bulk 65 = .ok (.iload_n 2, 1) := o_28 (u1_1 hc_X12_bulk_64 rfl) rfl
theorem dX12_bulk_66 : decode cX12_bulk 66 = .ok (.i2l, 1) := o_133 (u1_2 hc_X12_bulk_64 rfl) rfl
theorem dX12_bulk_67 : decode cX12_bulk 67 = .ok (.putfield 318, 3) := o_181 (u1_3 hc_X12_bulk_64 rfl) (u2_d (u1_4 hc_X12_bulk_64 rfl) (u1_5 hc_X12_bulk_64 rfl) rfl) rfl
theorem dX12_bulk_70 : decode cX12_bulk 70 = .ok (.iconst 1, 1) := o_4 (u1_6 hc_X12_bulk_64 rfl) rfl
theorem dX12_bulk_71 : decode cX12_bulk 71 = .ok (.ireturn, 1) := o_172 (u1_7 hc_X12_bulk_64 rfl) rfl
theorem hc_X12_asked_0 : ((bL cX12_asked).drop 0).take 18 = [42, 180, 1, 62, 173] := by decide +kernel
theorem dX12_asked_0 : decode cX12_asked 0 = .ok (.aload_n 0, 1) := o_42 (u1_0 hc_X12_asked_0 rfl) rfl
theorem dX12_asked_1 : decode cX12_asked 1 = .ok (.getfield 318, 3) := o_180 (u1_1 hc_X12_asked_0 rfl) (u2_d (u1_2 hc_X12_asked_0 rfl) (u1_3 hc_X12_asked_0 rfl) rfl) rfl
theorem dX12_asked_4 : decode cX12_asked 4 = .ok (.lreturn, 1) := o_173 (u1_4 hc_X12_asked_0 rfl) rfl
theorem hc_X12_trace_0 : ((bL cX12_trace).drop 0).take 18 = [27, 133, 9, 42, 180, 1, 41, 4, 100, 133, 184, 0, 166, 153, 0, 12, 42, 180] := by decide +kernel
theorem dX12_trace_0 : decode cX12_trace 0 = .ok (.iload_n 1, 1) := o_27 (u1_0 hc_X12_trace_0 rfl) rfl
theorem dX12_trace_1 : decode cX12_trace 1 = .ok (.i2l, 1) := o_133 (u1_1 hc_X12_trace_0 rfl) rfl
theorem dX12_trace_2 : decode cX12_trace 2 = .ok (.lconst 0, 1) := o_9 (u1_2 hc_X12_trace_0 rfl) rfl
theorem dX12_trace_3 : decode cX12_trace 3 = .ok (.aload_n 0, 1) := o_42 (u1_3 hc_X12_trace_0 rfl) rfl
theorem dX12_trace_4 : decode cX12_trace 4 = .ok (.getfield 297, 3) := o_180 (u1_4 hc_X12_trace_0 rfl) (u2_d (u1_5 hc_X12_trace_0 rfl) (u1_6 hc_X12_trace_0 rfl) rfl) rfl
theorem dX12_trace_7 : decode cX12_trace 7 = .ok (.iconst 1, 1) := o_4 (u1_7 hc_X12_trace_0 rfl) rfl
theorem dX12_trace_8 : decode cX12_trace 8 = .ok (.isub, 1) := o_100 (u1_8 hc_X12_trace_0 rfl) rfl
theorem dX12_trace_9 : decode cX12_trace 9 = .ok (.i2l, 1) := o_133 (u1_9 hc_X12_trace_0 rfl) rfl
theorem dX12_trace_10 : decode cX12_trace 10 = .ok (.invokestatic 166, 3) := o_184 (u1_10 hc_X12_trace_0 rfl) (u2_d (u1_11 hc_X12_trace_0 rfl) (u1_12 hc_X12_trace_0 rfl) rfl) rfl
theorem dX12_trace_13 : decode cX12_trace 13 = .ok (.ifCond .eq 12, 3) := o_153 (u1_13 hc_X12_trace_0 rfl) (s2_d (u2_d (u1_14 hc_X12_trace_0 rfl) (u1_15 hc_X12_trace_0 rfl) rfl) rfl) rfl
theorem hc_X12_trace_16 : ((bL cX12_trace).drop 16).take 18 = [42, 180, 0, 77, 27, 46, 167, 0, 5, 16, 247, 172] := by decide +kernel
theorem dX12_trace_16 : decode cX12_trace 16 = .ok (.aload_n 0, 1) := o_42 (u1_0 hc_X12_trace_16 rfl) rfl
theorem dX12_trace_17 : decode cX12_trace 17 = .ok (.getfield 77, 3) := o_180 (u1_1 hc_X12_trace_16 rfl) (u2_d (u1_2 hc_X12_trace_16 rfl) (u1_3 hc_X12_trace_16 rfl) rfl) rfl
theorem dX12_trace_20 : decode cX12_trace 20 = .ok (.iload_n 1, 1) := o_27 (u1_4 hc_X12_trace_16 rfl) rfl
theorem dX12_trace_21 : decode cX12_trace 21 = .ok (.iaload, 1) := o_46 (u1_5 hc_X12_trace_16 rfl) rfl
theorem dX12_trace_22 : decode cX12_trace 22 = .ok (.goto 5, 3) := o_167 (u1_6 hc_X12_trace_16 rfl) (s2_d (u2_d (u1_7 hc_X12_trace_16 rfl) (u1_8 hc_X12_trace_16 rfl) rfl) rfl) rfl
theorem dX12_trace_25 : decode cX12_trace 25 = .ok (.bipush (-9), 2) := o_16 (u1_9 hc_X12_trace_16 rfl) (s1_d (u1_10 hc_X12_trace_16 rfl) rfl) rfl
theorem dX12_trace_27 : decode cX12_trace 27 = .ok (.ireturn, 1) := o_172 (u1_11 hc_X12_trace_16 rfl) rfl
theorem hc_X12_share_0 : ((bL cX12_share).drop 0).take 18 = [42, 27, 182, 0, 180, 153, 0, 11, 42, 28, 182, 0, 180, 154, 0, 5, 2, 172] := by decide +kernel
theorem dX12_share_0 : decode cX12_share 0 = .ok (.aload_n 0, 1) := o_42 (u1_0 hc_X12_share_0 rfl) rfl
theorem dX12_share_1 : decode cX12_share 1 = .ok (.iload_n 1, 1) := o_27 (u1_1 hc_X12_share_0 rfl) rfl
theorem dX12_share_2 : decode cX12_share 2 = .ok (.invokevirtual 180, 3) := o_182 (u1_2 hc_X12_share_0 rfl) (u2_d (u1_3 hc_X12_share_0 rfl) (u1_4 hc_X12_share_0 rfl) rfl) rfl
theorem dX12_share_5 : decode cX12_share 5 = .ok (.ifCond .eq 11, 3) := o_153 (u1_5 hc_X12_share_0 rfl) (s2_d (u2_d (u1_6 hc_X12_share_0 rfl) (u1_7 hc_X12_share_0 rfl) rfl) rfl) rfl
theorem dX12_share_8 : decode cX12_share 8 = .ok (.aload_n 0, 1) := o_42 (u1_8 hc_X12_share_0 rfl) rfl
theorem dX12_share_9 : decode cX12_share 9 = .ok (.iload_n 2, 1) := o_28 (u1_9 hc_X12_share_0 rfl) rfl
theorem dX12_share_10 : decode cX12_share 10 = .ok (.invokevirtual 180, 3) := o_182 (u1_10 hc_X12_share_0 rfl) (u2_d (u1_11 hc_X12_share_0 rfl) (u1_12 hc_X12_share_0 rfl) rfl) rfl
theorem dX12_share_13 : decode cX12_share 13 = .ok (.ifCond .ne 5, 3) := o_154 (u1_13 hc_X12_share_0 rfl) (s2_d (u2_d (u1_14 hc_X12_share_0 rfl) (u1_15 hc_X12_share_0 rfl) rfl) rfl) rfl
theorem hc_X12_share_16 : ((bL cX12_share).drop 16).take 18 = [2, 172, 42, 27, 3, 182, 0, 184, 153, 0, 9, 42, 6, 182, 0, 233, 172, 42] := by decide +kernel
theorem dX12_share_16 : decode cX12_share 16 = .ok (.iconst (-1), 1) := o_2 (u1_0 hc_X12_share_16 rfl) rfl
theorem dX12_share_17 : decode cX12_share 17 = .ok (.ireturn, 1) := o_172 (u1_1 hc_X12_share_16 rfl) rfl
theorem dX12_share_18 : decode cX12_share 18 = .ok (.aload_n 0, 1) := o_42 (u1_2 hc_X12_share_16 rfl) rfl
theorem dX12_share_19 : decode cX12_share 19 = .ok (.iload_n 1, 1) := o_27 (u1_3 hc_X12_share_16 rfl) rfl
theorem dX12_share_20 : decode cX12_share 20 = .ok (.iconst 0, 1) := o_3 (u1_4 hc_X12_share_16 rfl) rfl
theorem dX12_share_21 : decode cX12_share 21 = .ok (.invokevirtual 184, 3) := o_182 (u1_5 hc_X12_share_16 rfl) (u2_d (u1_6 hc_X12_share_16 rfl) (u1_7 hc_X12_share_16 rfl) rfl) rfl
theorem dX12_share_24 : decode cX12_share 24 = .ok (.ifCond .eq 9, 3) := o_153 (u1_8 hc_X12_share_16 rfl) (s2_d (u2_d (u1_9 hc_X12_share_16 rfl) (u1_10 hc_X12_share_16 rfl) rfl) rfl) rfl
theorem dX12_share_27 : decode cX12_share 27 = .ok (.aload_n 0, 1) := o_42 (u1_11 hc_X12_share_16 rfl) rfl
theorem dX12_share_28 : decode cX12_share 28 = .ok (.iconst 3, 1) := o_6 (u1_12 hc_X12_share_16 rfl) rfl
theorem dX12_share_29 : decode cX12_share 29 = .ok (.invokevirtual 233, 3) := o_182 (u1_13 hc_X12_share_16 rfl) (u2_d (u1_14 hc_X12_share_16 rfl) (u1_15 hc_X12_share_16 rfl) rfl) rfl
theorem hc_X12_share_32 : ((bL cX12_share).drop 32).take 18 = [172, 42, 3, 181, 1, 47, 42, 27, 182, 1, 59, 133, 66, 9, 55, 5, 3, 54] := by decide +kernel
theorem dX12_share_32 : decode cX12_share 32 = .ok (.ireturn, 1) := o_172 (u1_0 hc_X12_share_32 rfl) rfl
theorem dX12_share_33 : decode cX12_share 33 = .ok (.aload_n 0, 1) := o_42 (u1_1 hc_X12_share_32 rfl) rfl
theorem dX12_share_34 : decode cX12_share 34 = .ok (.iconst 0, 1) := o_3 (u1_2 hc_X12_share_32 rfl) rfl
theorem dX12_share_35 : decode cX12_share 35 = .ok (.putfield 303, 3) := o_181 (u1_3 hc_X12_share_32 rfl) (u2_d (u1_4 hc_X12_share_32 rfl) (u1_5 hc_X12_share_32 rfl) rfl) rfl
theorem dX12_share_38 : decode cX12_share 38 = .ok (.aload_n 0, 1) := o_42 (u1_6 hc_X12_share_32 rfl) rfl
theorem dX12_share_39 : decode cX12_share 39 = .ok (.iload_n 1, 1) := o_27 (u1_7 hc_X12_share_32 rfl) rfl
theorem dX12_share_40 : decode cX12_share 40 = .ok (.invokevirtual 315, 3) := o_182 (u1_8 hc_X12_share_32 rfl) (u2_d (u1_9 hc_X12_share_32 rfl) (u1_10 hc_X12_share_32 rfl) rfl) rfl
theorem dX12_share_43 : decode cX12_share 43 = .ok (.i2l, 1) := o_133 (u1_11 hc_X12_share_32 rfl) rfl
theorem dX12_share_44 : decode cX12_share 44 = .ok (.lstore_n 3, 1) := o_66 (u1_12 hc_X12_share_32 rfl) rfl
theorem dX12_share_45 : decode cX12_share 45 = .ok (.lconst 0, 1) := o_9 (u1_13 hc_X12_share_32 rfl) rfl
theorem dX12_share_46 : decode cX12_share 46 = .ok (.lstore 5, 2) := o_55 (u1_14 hc_X12_share_32 rfl) (u1_15 hc_X12_share_32 rfl) rfl
theorem hc_X12_share_48 : ((bL cX12_share).drop 48).take 18 = [3, 54, 7, 21, 7, 42, 180, 0, 177, 162, 0, 46, 22, 5, 42, 21, 7, 182] := by decide +kernel
theorem dX12_share_48 : decode cX12_share 48 = .ok (.iconst 0, 1) := o_3 (u1_0 hc_X12_share_48 rfl) rfl
theorem dX12_share_49 : decode cX12_share 49 = .ok (.istore 7, 2) := o_54 (u1_1 hc_X12_share_48 rfl) (u1_2 hc_X12_share_48 rfl) rfl
theorem dX12_share_51 : decode cX12_share 51 = .ok (.iload 7, 2) := o_21 (u1_3 hc_X12_share_48 rfl) (u1_4 hc_X12_share_48 rfl) rfl
theorem dX12_share_53 : decode cX12_share 53 = .ok (.aload_n 0, 1) := o_42 (u1_5 hc_X12_share_48 rfl) rfl
theorem dX12_share_54 : decode cX12_share 54 = .ok (.getfield 177, 3) := o_180 (u1_6 hc_X12_share_48 rfl) (u2_d (u1_7 hc_X12_share_48 rfl) (u1_8 hc_X12_share_48 rfl) rfl) rfl
theorem dX12_share_57 : decode cX12_share 57 = .ok (.if_icmp .ge 46, 3) := o_162 (u1_9 hc_X12_share_48 rfl) (s2_d (u2_d (u1_10 hc_X12_share_48 rfl) (u1_11 hc_X12_share_48 rfl) rfl) rfl) rfl
theorem dX12_share_60 : decode cX12_share 60 = .ok (.lload 5, 2) := o_22 (u1_12 hc_X12_share_48 rfl) (u1_13 hc_X12_share_48 rfl) rfl
theorem dX12_share_62 : decode cX12_share 62 = .ok (.aload_n 0, 1) := o_42 (u1_14 hc_X12_share_48 rfl) rfl
theorem dX12_share_63 : decode cX12_share 63 = .ok (.iload 7, 2) := o_21 (u1_15 hc_X12_share_48 rfl) (u1_16 hc_X12_share_48 rfl) rfl
theorem hc_X12_share_64 : ((bL cX12_share).drop 64).take 18 = [7, 182, 1, 53, 16, 247, 159, 0, 23, 42, 21, 7, 182, 1, 56, 28, 160, 0] := by decide +kernel
theorem dX12_share_65 : decode cX12_share 65 = .ok (.invokevirtual 309, 3) := o_182 (u1_1 hc_X12_share_64 rfl) (u2_d (u1_2 hc_X12_share_64 rfl) (u1_3 hc_X12_share_64 rfl) rfl) rfl
theorem dX12_share_68 : decode cX12_share 68 = .ok (.bipush (-9), 2) := o_16 (u1_4 hc_X12_share_64 rfl) (s1_d (u1_5 hc_X12_share_64 rfl) rfl) rfl
theorem dX12_share_70 : decode cX12_share 70 = .ok (.if_icmp .eq 23, 3) := o_159 (u1_6 hc_X12_share_64 rfl) (s2_d (u2_d (u1_7 hc_X12_share_64 rfl) (u1_8 hc_X12_share_64 rfl) rfl) rfl) rfl
theorem dX12_share_73 : decode cX12_share 73 = .ok (.aload_n 0, 1) := o_42 (u1_9 hc_X12_share_64 rfl) rfl
theorem dX12_share_74 : decode cX12_share 74 = .ok (.iload 7, 2) := o_21 (u1_10 hc_X12_share_64 rfl) (u1_11 hc_X12_share_64 rfl) rfl
theorem dX12_share_76 : decode cX12_share 76 = .ok (.invokevirtual 312, 3) := o_182 (u1_12 hc_X12_share_64 rfl) (u2_d (u1_13 hc_X12_share_64 rfl) (u1_14 hc_X12_share_64 rfl) rfl) rfl
theorem dX12_share_79 : decode cX12_share 79 = .ok (.iload_n 2, 1) := o_28 (u1_15 hc_X12_share_64 rfl) rfl
theorem hc_X12_share_80 : ((bL cX12_share).drop 80).take 18 = [160, 0, 13, 42, 21, 7, 182, 1, 59, 133, 167, 0, 4, 9, 97, 55, 5, 132] := by decide +kernel
theorem dX12_share_80 : decode cX12_share 80 = .ok (.if_icmp .ne 13, 3) := o_160 (u1_0 hc_X12_share_80 rfl) (s2_d (u2_d (u1_1 hc_X12_share_80 rfl) (u1_2 hc_X12_share_80 rfl) rfl) rfl) rfl
theorem dX12_share_83 : decode cX12_share 83 = .ok (.aload_n 0, 1) := o_42 (u1_3 hc_X12_share_80 rfl) rfl
theorem dX12_share_84 : decode cX12_share 84 = .ok (.iload 7, 2) := o_21 (u1_4 hc_X12_share_80 rfl) (u1_5 hc_X12_share_80 rfl) rfl
theorem dX12_share_86 : decode cX12_share 86 = .ok (.invokevirtual 315, 3) := o_182 (u1_6 hc_X12_share_80 rfl) (u2_d (u1_7 hc_X12_share_80 rfl) (u1_8 hc_X12_share_80 rfl) rfl) rfl
theorem dX12_share_89 : decode cX12_share 89 = .ok (.i2l, 1) := o_133 (u1_9 hc_X12_share_80 rfl) rfl
theorem dX12_share_90 : decode cX12_share 90 = .ok (.goto 4, 3) := o_167 (u1_10 hc_X12_share_80 rfl) (s2_d (u2_d (u1_11 hc_X12_share_80 rfl) (u1_12 hc_X12_share_80 rfl) rfl) rfl) rfl
theorem dX12_share_93 : decode cX12_share 93 = .ok (.lconst 0, 1) := o_9 (u1_13 hc_X12_share_80 rfl) rfl
theorem dX12_share_94 : decode cX12_share 94 = .ok (.ladd, 1) := o_97 (u1_14 hc_X12_share_80 rfl) rfl
theorem dX12_share_95 : decode cX12_share 95 = .ok (.lstore 5, 2) := o_55 (u1_15 hc_X12_share_80 rfl) (u1_16 hc_X12_share_80 rfl) rfl
theorem hc_X12_share_96 : ((bL cX12_share).drop 96).take 18 = [5, 132, 7, 1, 167, 255, 207, 42, 180, 1, 47, 154, 0, 10, 22, 5, 9, 148] := by decide +kernel
theorem dX12_share_97 : decode cX12_share 97 = .ok (.iinc 7 1, 3) := o_132 (u1_1 hc_X12_share_96 rfl) (u1_2 hc_X12_share_96 rfl) (s1_d (u1_3 hc_X12_share_96 rfl) rfl) rfl
theorem dX12_share_100 : decode cX12_share 100 = .ok (.goto (-49), 3) := o_167 (u1_4 hc_X12_share_96 rfl) (s2_d (u2_d (u1_5 hc_X12_share_96 rfl) (u1_6 hc_X12_share_96 rfl) rfl) rfl) rfl
theorem dX12_share_103 : decode cX12_share 103 = .ok (.aload_n 0, 1) := o_42 (u1_7 hc_X12_share_96 rfl) rfl
theorem dX12_share_104 : decode cX12_share 104 = .ok (.getfield 303, 3) := o_180 (u1_8 hc_X12_share_96 rfl) (u2_d (u1_9 hc_X12_share_96 rfl) (u1_10 hc_X12_share_96 rfl) rfl) rfl
theorem dX12_share_107 : decode cX12_share 107 = .ok (.ifCond .ne 10, 3) := o_154 (u1_11 hc_X12_share_96 rfl) (s2_d (u2_d (u1_12 hc_X12_share_96 rfl) (u1_13 hc_X12_share_96 rfl) rfl) rfl) rfl
theorem dX12_share_110 : decode cX12_share 110 = .ok (.lload 5, 2) := o_22 (u1_14 hc_X12_share_96 rfl) (u1_15 hc_X12_share_96 rfl) rfl
theorem hc_X12_share_112 : ((bL cX12_share).drop 112).take 18 = [9, 148, 154, 0, 9, 42, 7, 182, 0, 233, 172, 42, 20, 1, 66, 33, 105, 22] := by decide +kernel
theorem dX12_share_112 : decode cX12_share 112 = .ok (.lconst 0, 1) := o_9 (u1_0 hc_X12_share_112 rfl) rfl
theorem dX12_share_113 : decode cX12_share 113 = .ok (.lcmp, 1) := o_148 (u1_1 hc_X12_share_112 rfl) rfl
theorem dX12_share_114 : decode cX12_share 114 = .ok (.ifCond .ne 9, 3) := o_154 (u1_2 hc_X12_share_112 rfl) (s2_d (u2_d (u1_3 hc_X12_share_112 rfl) (u1_4 hc_X12_share_112 rfl) rfl) rfl) rfl
theorem dX12_share_117 : decode cX12_share 117 = .ok (.aload_n 0, 1) := o_42 (u1_5 hc_X12_share_112 rfl) rfl
theorem dX12_share_118 : decode cX12_share 118 = .ok (.iconst 4, 1) := o_7 (u1_6 hc_X12_share_112 rfl) rfl
theorem dX12_share_119 : decode cX12_share 119 = .ok (.invokevirtual 233, 3) := o_182 (u1_7 hc_X12_share_112 rfl) (u2_d (u1_8 hc_X12_share_112 rfl) (u1_9 hc_X12_share_112 rfl) rfl) rfl
theorem dX12_share_122 : decode cX12_share 122 = .ok (.ireturn, 1) := o_172 (u1_10 hc_X12_share_112 rfl) rfl
theorem dX12_share_123 : decode cX12_share 123 = .ok (.aload_n 0, 1) := o_42 (u1_11 hc_X12_share_112 rfl) rfl
theorem dX12_share_124 : decode cX12_share 124 = .ok (.ldc2_w 322, 3) := o_20 (u1_12 hc_X12_share_112 rfl) (u2_d (u1_13 hc_X12_share_112 rfl) (u1_14 hc_X12_share_112 rfl) rfl) rfl
theorem dX12_share_127 : decode cX12_share 127 = .ok (.lload_n 3, 1) := o_33 (u1_15 hc_X12_share_112 rfl) rfl
theorem hc_X12_share_128 : ((bL cX12_share).drop 128).take 18 = [105, 22, 5, 109, 181, 1, 62, 4, 172] := by decide +kernel
theorem dX12_share_128 : decode cX12_share 128 = .ok (.lmul, 1) := o_105 (u1_0 hc_X12_share_128 rfl) rfl
theorem dX12_share_129 : decode cX12_share 129 = .ok (.lload 5, 2) := o_22 (u1_1 hc_X12_share_128 rfl) (u1_2 hc_X12_share_128 rfl) rfl
theorem dX12_share_131 : decode cX12_share 131 = .ok (.ldiv, 1) := o_109 (u1_3 hc_X12_share_128 rfl) rfl
theorem dX12_share_132 : decode cX12_share 132 = .ok (.putfield 318, 3) := o_181 (u1_4 hc_X12_share_128 rfl) (u2_d (u1_5 hc_X12_share_128 rfl) (u1_6 hc_X12_share_128 rfl) rfl) rfl
theorem dX12_share_135 : decode cX12_share 135 = .ok (.iconst 1, 1) := o_4 (u1_7 hc_X12_share_128 rfl) rfl
theorem dX12_share_136 : decode cX12_share 136 = .ok (.ireturn, 1) := o_172 (u1_8 hc_X12_share_128 rfl) rfl
theorem hc_X12_lookAtKinds_0 : ((bL cX12_lookAtKinds).drop 0).take 18 = [3, 60, 27, 42, 180, 0, 177, 162, 0, 96, 42, 180, 0, 92, 27, 42, 27, 5] := by decide +kernel
theorem dX12_lookAtKinds_0 : decode cX12_lookAtKinds 0 = .ok (.iconst 0, 1) := o_3 (u1_0 hc_X12_lookAtKinds_0 rfl) rfl
theorem dX12_lookAtKinds_1 : decode cX12_lookAtKinds 1 = .ok (.istore_n 1, 1) := o_60 (u1_1 hc_X12_lookAtKinds_0 rfl) rfl
theorem dX12_lookAtKinds_2 : decode cX12_lookAtKinds 2 = .ok (.iload_n 1, 1) := o_27 (u1_2 hc_X12_lookAtKinds_0 rfl) rfl
theorem dX12_lookAtKinds_3 : decode cX12_lookAtKinds 3 = .ok (.aload_n 0, 1) := o_42 (u1_3 hc_X12_lookAtKinds_0 rfl) rfl
theorem dX12_lookAtKinds_4 : decode cX12_lookAtKinds 4 = .ok (.getfield 177, 3) := o_180 (u1_4 hc_X12_lookAtKinds_0 rfl) (u2_d (u1_5 hc_X12_lookAtKinds_0 rfl) (u1_6 hc_X12_lookAtKinds_0 rfl) rfl) rfl
theorem dX12_lookAtKinds_7 : decode cX12_lookAtKinds 7 = .ok (.if_icmp .ge 96, 3) := o_162 (u1_7 hc_X12_lookAtKinds_0 rfl) (s2_d (u2_d (u1_8 hc_X12_lookAtKinds_0 rfl) (u1_9 hc_X12_lookAtKinds_0 rfl) rfl) rfl) rfl
theorem dX12_lookAtKinds_10 : decode cX12_lookAtKinds 10 = .ok (.aload_n 0, 1) := o_42 (u1_10 hc_X12_lookAtKinds_0 rfl) rfl
theorem dX12_lookAtKinds_11 : decode cX12_lookAtKinds 11 = .ok (.getfield 92, 3) := o_180 (u1_11 hc_X12_lookAtKinds_0 rfl) (u2_d (u1_12 hc_X12_lookAtKinds_0 rfl) (u1_13 hc_X12_lookAtKinds_0 rfl) rfl) rfl
theorem dX12_lookAtKinds_14 : decode cX12_lookAtKinds 14 = .ok (.iload_n 1, 1) := o_27 (u1_14 hc_X12_lookAtKinds_0 rfl) rfl
theorem dX12_lookAtKinds_15 : decode cX12_lookAtKinds 15 = .ok (.aload_n 0, 1) := o_42 (u1_15 hc_X12_lookAtKinds_0 rfl) rfl
theorem hc_X12_lookAtKinds_16 : ((bL cX12_lookAtKinds).drop 16).take 18 = [27, 5, 182, 1, 0, 4, 160, 0, 7, 4, 167, 0, 4, 3, 84, 42, 180, 0] := by decide +kernel
theorem dX12_lookAtKinds_16 : decode cX12_lookAtKinds 16 = .ok (.iload_n 1, 1) := o_27 (u1_0 hc_X12_lookAtKinds_16 rfl) rfl
theorem dX12_lookAtKinds_17 : decode cX12_lookAtKinds 17 = .ok (.iconst 2, 1) := o_5 (u1_1 hc_X12_lookAtKinds_16 rfl) rfl
theorem dX12_lookAtKinds_18 : decode cX12_lookAtKinds 18 = .ok (.invokevirtual 256, 3) := o_182 (u1_2 hc_X12_lookAtKinds_16 rfl) (u2_d (u1_3 hc_X12_lookAtKinds_16 rfl) (u1_4 hc_X12_lookAtKinds_16 rfl) rfl) rfl
theorem dX12_lookAtKinds_21 : decode cX12_lookAtKinds 21 = .ok (.iconst 1, 1) := o_4 (u1_5 hc_X12_lookAtKinds_16 rfl) rfl
theorem dX12_lookAtKinds_22 : decode cX12_lookAtKinds 22 = .ok (.if_icmp .ne 7, 3) := o_160 (u1_6 hc_X12_lookAtKinds_16 rfl) (s2_d (u2_d (u1_7 hc_X12_lookAtKinds_16 rfl) (u1_8 hc_X12_lookAtKinds_16 rfl) rfl) rfl) rfl
theorem dX12_lookAtKinds_25 : decode cX12_lookAtKinds 25 = .ok (.iconst 1, 1) := o_4 (u1_9 hc_X12_lookAtKinds_16 rfl) rfl
theorem dX12_lookAtKinds_26 : decode cX12_lookAtKinds 26 = .ok (.goto 4, 3) := o_167 (u1_10 hc_X12_lookAtKinds_16 rfl) (s2_d (u2_d (u1_11 hc_X12_lookAtKinds_16 rfl) (u1_12 hc_X12_lookAtKinds_16 rfl) rfl) rfl) rfl
theorem dX12_lookAtKinds_29 : decode cX12_lookAtKinds 29 = .ok (.iconst 0, 1) := o_3 (u1_13 hc_X12_lookAtKinds_16 rfl) rfl
theorem dX12_lookAtKinds_30 : decode cX12_lookAtKinds 30 = .ok (.bastore, 1) := o_84 (u1_14 hc_X12_lookAtKinds_16 rfl) rfl
theorem dX12_lookAtKinds_31 : decode cX12_lookAtKinds 31 = .ok (.aload_n 0, 1) := o_42 (u1_15 hc_X12_lookAtKinds_16 rfl) rfl
theorem hc_X12_lookAtKinds_32 : ((bL cX12_lookAtKinds).drop 32).take 18 = [180, 0, 98, 27, 42, 27, 6, 182, 0, 184, 84, 42, 180, 0, 101, 27, 42, 27] := by decide +kernel
theorem dX12_lookAtKinds_32 : decode cX12_lookAtKinds 32 = .ok (.getfield 98, 3) := o_180 (u1_0 hc_X12_lookAtKinds_32 rfl) (u2_d (u1_1 hc_X12_lookAtKinds_32 rfl) (u1_2 hc_X12_lookAtKinds_32 rfl) rfl) rfl
theorem dX12_lookAtKinds_35 : decode cX12_lookAtKinds 35 = .ok (.iload_n 1, 1) := o_27 (u1_3 hc_X12_lookAtKinds_32 rfl) rfl
theorem dX12_lookAtKinds_36 : decode cX12_lookAtKinds 36 = .ok (.aload_n 0, 1) := o_42 (u1_4 hc_X12_lookAtKinds_32 rfl) rfl
theorem dX12_lookAtKinds_37 : decode cX12_lookAtKinds 37 = .ok (.iload_n 1, 1) := o_27 (u1_5 hc_X12_lookAtKinds_32 rfl) rfl
theorem dX12_lookAtKinds_38 : decode cX12_lookAtKinds 38 = .ok (.iconst 3, 1) := o_6 (u1_6 hc_X12_lookAtKinds_32 rfl) rfl
theorem dX12_lookAtKinds_39 : decode cX12_lookAtKinds 39 = .ok (.invokevirtual 184, 3) := o_182 (u1_7 hc_X12_lookAtKinds_32 rfl) (u2_d (u1_8 hc_X12_lookAtKinds_32 rfl) (u1_9 hc_X12_lookAtKinds_32 rfl) rfl) rfl
theorem dX12_lookAtKinds_42 : decode cX12_lookAtKinds 42 = .ok (.bastore, 1) := o_84 (u1_10 hc_X12_lookAtKinds_32 rfl) rfl
theorem dX12_lookAtKinds_43 : decode cX12_lookAtKinds 43 = .ok (.aload_n 0, 1) := o_42 (u1_11 hc_X12_lookAtKinds_32 rfl) rfl
theorem dX12_lookAtKinds_44 : decode cX12_lookAtKinds 44 = .ok (.getfield 101, 3) := o_180 (u1_12 hc_X12_lookAtKinds_32 rfl) (u2_d (u1_13 hc_X12_lookAtKinds_32 rfl) (u1_14 hc_X12_lookAtKinds_32 rfl) rfl) rfl
theorem dX12_lookAtKinds_47 : decode cX12_lookAtKinds 47 = .ok (.iload_n 1, 1) := o_27 (u1_15 hc_X12_lookAtKinds_32 rfl) rfl
theorem hc_X12_lookAtKinds_48 : ((bL cX12_lookAtKinds).drop 48).take 18 = [42, 27, 3, 182, 0, 184, 84, 42, 180, 0, 104, 27, 42, 27, 5, 182, 0, 184] := by decide +kernel
theorem dX12_lookAtKinds_48 : decode cX12_lookAtKinds 48 = .ok (.aload_n 0, 1) := o_42 (u1_0 hc_X12_lookAtKinds_48 rfl) rfl
theorem dX12_lookAtKinds_49 : decode cX12_lookAtKinds 49 = .ok (.iload_n 1, 1) := o_27 (u1_1 hc_X12_lookAtKinds_48 rfl) rfl
theorem dX12_lookAtKinds_50 : decode cX12_lookAtKinds 50 = .ok (.iconst 0, 1) := o_3 (u1_2 hc_X12_lookAtKinds_48 rfl) rfl
theorem dX12_lookAtKinds_51 : decode cX12_lookAtKinds 51 = .ok (.invokevirtual 184, 3) := o_182 (u1_3 hc_X12_lookAtKinds_48 rfl) (u2_d (u1_4 hc_X12_lookAtKinds_48 rfl) (u1_5 hc_X12_lookAtKinds_48 rfl) rfl) rfl
theorem dX12_lookAtKinds_54 : decode cX12_lookAtKinds 54 = .ok (.bastore, 1) := o_84 (u1_6 hc_X12_lookAtKinds_48 rfl) rfl
theorem dX12_lookAtKinds_55 : decode cX12_lookAtKinds 55 = .ok (.aload_n 0, 1) := o_42 (u1_7 hc_X12_lookAtKinds_48 rfl) rfl
theorem dX12_lookAtKinds_56 : decode cX12_lookAtKinds 56 = .ok (.getfield 104, 3) := o_180 (u1_8 hc_X12_lookAtKinds_48 rfl) (u2_d (u1_9 hc_X12_lookAtKinds_48 rfl) (u1_10 hc_X12_lookAtKinds_48 rfl) rfl) rfl
theorem dX12_lookAtKinds_59 : decode cX12_lookAtKinds 59 = .ok (.iload_n 1, 1) := o_27 (u1_11 hc_X12_lookAtKinds_48 rfl) rfl
theorem dX12_lookAtKinds_60 : decode cX12_lookAtKinds 60 = .ok (.aload_n 0, 1) := o_42 (u1_12 hc_X12_lookAtKinds_48 rfl) rfl
theorem dX12_lookAtKinds_61 : decode cX12_lookAtKinds 61 = .ok (.iload_n 1, 1) := o_27 (u1_13 hc_X12_lookAtKinds_48 rfl) rfl
theorem dX12_lookAtKinds_62 : decode cX12_lookAtKinds 62 = .ok (.iconst 2, 1) := o_5 (u1_14 hc_X12_lookAtKinds_48 rfl) rfl
theorem dX12_lookAtKinds_63 : decode cX12_lookAtKinds 63 = .ok (.invokevirtual 184, 3) := o_182 (u1_15 hc_X12_lookAtKinds_48 rfl) (u2_d (u1_16 hc_X12_lookAtKinds_48 rfl) (u1_17 hc_X12_lookAtKinds_48 rfl) rfl) rfl
theorem hc_X12_lookAtKinds_64 : ((bL cX12_lookAtKinds).drop 64).take 18 = [0, 184, 84, 42, 180, 0, 95, 27, 42, 180, 0, 98, 27, 51, 153, 0, 17, 42] := by decide +kernel
theorem dX12_lookAtKinds_66 : decode cX12_lookAtKinds 66 = .ok (.bastore, 1) := o_84 (u1_2 hc_X12_lookAtKinds_64 rfl) rfl
theorem dX12_lookAtKinds_67 : decode cX12_lookAtKinds 67 = .ok (.aload_n 0, 1) := o_42 (u1_3 hc_X12_lookAtKinds_64 rfl) rfl
theorem dX12_lookAtKinds_68 : decode cX12_lookAtKinds 68 = .ok (.getfield 95, 3) := o_180 (u1_4 hc_X12_lookAtKinds_64 rfl) (u2_d (u1_5 hc_X12_lookAtKinds_64 rfl) (u1_6 hc_X12_lookAtKinds_64 rfl) rfl) rfl
theorem dX12_lookAtKinds_71 : decode cX12_lookAtKinds 71 = .ok (.iload_n 1, 1) := o_27 (u1_7 hc_X12_lookAtKinds_64 rfl) rfl
theorem dX12_lookAtKinds_72 : decode cX12_lookAtKinds 72 = .ok (.aload_n 0, 1) := o_42 (u1_8 hc_X12_lookAtKinds_64 rfl) rfl
theorem dX12_lookAtKinds_73 : decode cX12_lookAtKinds 73 = .ok (.getfield 98, 3) := o_180 (u1_9 hc_X12_lookAtKinds_64 rfl) (u2_d (u1_10 hc_X12_lookAtKinds_64 rfl) (u1_11 hc_X12_lookAtKinds_64 rfl) rfl) rfl
theorem dX12_lookAtKinds_76 : decode cX12_lookAtKinds 76 = .ok (.iload_n 1, 1) := o_27 (u1_12 hc_X12_lookAtKinds_64 rfl) rfl
theorem dX12_lookAtKinds_77 : decode cX12_lookAtKinds 77 = .ok (.baload, 1) := o_51 (u1_13 hc_X12_lookAtKinds_64 rfl) rfl
theorem dX12_lookAtKinds_78 : decode cX12_lookAtKinds 78 = .ok (.ifCond .eq 17, 3) := o_153 (u1_14 hc_X12_lookAtKinds_64 rfl) (s2_d (u2_d (u1_15 hc_X12_lookAtKinds_64 rfl) (u1_16 hc_X12_lookAtKinds_64 rfl) rfl) rfl) rfl
theorem hc_X12_lookAtKinds_80 : ((bL cX12_lookAtKinds).drop 80).take 18 = [17, 42, 27, 8, 182, 1, 0, 4, 160, 0, 7, 4, 167, 0, 4, 3, 84, 132] := by decide +kernel
theorem dX12_lookAtKinds_81 : decode cX12_lookAtKinds 81 = .ok (.aload_n 0, 1) := o_42 (u1_1 hc_X12_lookAtKinds_80 rfl) rfl
theorem dX12_lookAtKinds_82 : decode cX12_lookAtKinds 82 = .ok (.iload_n 1, 1) := o_27 (u1_2 hc_X12_lookAtKinds_80 rfl) rfl
theorem dX12_lookAtKinds_83 : decode cX12_lookAtKinds 83 = .ok (.iconst 5, 1) := o_8 (u1_3 hc_X12_lookAtKinds_80 rfl) rfl
theorem dX12_lookAtKinds_84 : decode cX12_lookAtKinds 84 = .ok (.invokevirtual 256, 3) := o_182 (u1_4 hc_X12_lookAtKinds_80 rfl) (u2_d (u1_5 hc_X12_lookAtKinds_80 rfl) (u1_6 hc_X12_lookAtKinds_80 rfl) rfl) rfl
theorem dX12_lookAtKinds_87 : decode cX12_lookAtKinds 87 = .ok (.iconst 1, 1) := o_4 (u1_7 hc_X12_lookAtKinds_80 rfl) rfl
theorem dX12_lookAtKinds_88 : decode cX12_lookAtKinds 88 = .ok (.if_icmp .ne 7, 3) := o_160 (u1_8 hc_X12_lookAtKinds_80 rfl) (s2_d (u2_d (u1_9 hc_X12_lookAtKinds_80 rfl) (u1_10 hc_X12_lookAtKinds_80 rfl) rfl) rfl) rfl
theorem dX12_lookAtKinds_91 : decode cX12_lookAtKinds 91 = .ok (.iconst 1, 1) := o_4 (u1_11 hc_X12_lookAtKinds_80 rfl) rfl
theorem dX12_lookAtKinds_92 : decode cX12_lookAtKinds 92 = .ok (.goto 4, 3) := o_167 (u1_12 hc_X12_lookAtKinds_80 rfl) (s2_d (u2_d (u1_13 hc_X12_lookAtKinds_80 rfl) (u1_14 hc_X12_lookAtKinds_80 rfl) rfl) rfl) rfl
theorem dX12_lookAtKinds_95 : decode cX12_lookAtKinds 95 = .ok (.iconst 0, 1) := o_3 (u1_15 hc_X12_lookAtKinds_80 rfl) rfl
theorem hc_X12_lookAtKinds_96 : ((bL cX12_lookAtKinds).drop 96).take 18 = [84, 132, 1, 1, 167, 255, 158, 177] := by decide +kernel
theorem dX12_lookAtKinds_96 : decode cX12_lookAtKinds 96 = .ok (.bastore, 1) := o_84 (u1_0 hc_X12_lookAtKinds_96 rfl) rfl
theorem dX12_lookAtKinds_97 : decode cX12_lookAtKinds 97 = .ok (.iinc 1 1, 3) := o_132 (u1_1 hc_X12_lookAtKinds_96 rfl) (u1_2 hc_X12_lookAtKinds_96 rfl) (s1_d (u1_3 hc_X12_lookAtKinds_96 rfl) rfl) rfl
theorem dX12_lookAtKinds_100 : decode cX12_lookAtKinds 100 = .ok (.goto (-98), 3) := o_167 (u1_4 hc_X12_lookAtKinds_96 rfl) (s2_d (u2_d (u1_5 hc_X12_lookAtKinds_96 rfl) (u1_6 hc_X12_lookAtKinds_96 rfl) rfl) rfl) rfl
theorem dX12_lookAtKinds_103 : decode cX12_lookAtKinds 103 = .ok (.return_, 1) := o_177 (u1_7 hc_X12_lookAtKinds_96 rfl) rfl
theorem hc_X12_shuts_0 : ((bL cX12_shuts).drop 0).take 18 = [42, 180, 0, 98, 27, 51, 153, 0, 29, 42, 180, 0, 56, 27, 51, 154, 0, 20] := by decide +kernel
theorem dX12_shuts_0 : decode cX12_shuts 0 = .ok (.aload_n 0, 1) := o_42 (u1_0 hc_X12_shuts_0 rfl) rfl
theorem dX12_shuts_1 : decode cX12_shuts 1 = .ok (.getfield 98, 3) := o_180 (u1_1 hc_X12_shuts_0 rfl) (u2_d (u1_2 hc_X12_shuts_0 rfl) (u1_3 hc_X12_shuts_0 rfl) rfl) rfl
theorem dX12_shuts_4 : decode cX12_shuts 4 = .ok (.iload_n 1, 1) := o_27 (u1_4 hc_X12_shuts_0 rfl) rfl
theorem dX12_shuts_5 : decode cX12_shuts 5 = .ok (.baload, 1) := o_51 (u1_5 hc_X12_shuts_0 rfl) rfl
theorem dX12_shuts_6 : decode cX12_shuts 6 = .ok (.ifCond .eq 29, 3) := o_153 (u1_6 hc_X12_shuts_0 rfl) (s2_d (u2_d (u1_7 hc_X12_shuts_0 rfl) (u1_8 hc_X12_shuts_0 rfl) rfl) rfl) rfl
theorem dX12_shuts_9 : decode cX12_shuts 9 = .ok (.aload_n 0, 1) := o_42 (u1_9 hc_X12_shuts_0 rfl) rfl
theorem dX12_shuts_10 : decode cX12_shuts 10 = .ok (.getfield 56, 3) := o_180 (u1_10 hc_X12_shuts_0 rfl) (u2_d (u1_11 hc_X12_shuts_0 rfl) (u1_12 hc_X12_shuts_0 rfl) rfl) rfl
theorem dX12_shuts_13 : decode cX12_shuts 13 = .ok (.iload_n 1, 1) := o_27 (u1_13 hc_X12_shuts_0 rfl) rfl
theorem dX12_shuts_14 : decode cX12_shuts 14 = .ok (.baload, 1) := o_51 (u1_14 hc_X12_shuts_0 rfl) rfl
theorem dX12_shuts_15 : decode cX12_shuts 15 = .ok (.ifCond .ne 20, 3) := o_154 (u1_15 hc_X12_shuts_0 rfl) (s2_d (u2_d (u1_16 hc_X12_shuts_0 rfl) (u1_17 hc_X12_shuts_0 rfl) rfl) rfl) rfl
theorem hc_X12_shuts_16 : ((bL cX12_shuts).drop 16).take 18 = [0, 20, 28, 154, 0, 12, 42, 180, 0, 95, 27, 51, 154, 0, 7, 4, 167, 0] := by decide +kernel
theorem dX12_shuts_18 : decode cX12_shuts 18 = .ok (.iload_n 2, 1) := o_28 (u1_2 hc_X12_shuts_16 rfl) rfl
theorem dX12_shuts_19 : decode cX12_shuts 19 = .ok (.ifCond .ne 12, 3) := o_154 (u1_3 hc_X12_shuts_16 rfl) (s2_d (u2_d (u1_4 hc_X12_shuts_16 rfl) (u1_5 hc_X12_shuts_16 rfl) rfl) rfl) rfl
theorem dX12_shuts_22 : decode cX12_shuts 22 = .ok (.aload_n 0, 1) := o_42 (u1_6 hc_X12_shuts_16 rfl) rfl
theorem dX12_shuts_23 : decode cX12_shuts 23 = .ok (.getfield 95, 3) := o_180 (u1_7 hc_X12_shuts_16 rfl) (u2_d (u1_8 hc_X12_shuts_16 rfl) (u1_9 hc_X12_shuts_16 rfl) rfl) rfl
theorem dX12_shuts_26 : decode cX12_shuts 26 = .ok (.iload_n 1, 1) := o_27 (u1_10 hc_X12_shuts_16 rfl) rfl
theorem dX12_shuts_27 : decode cX12_shuts 27 = .ok (.baload, 1) := o_51 (u1_11 hc_X12_shuts_16 rfl) rfl
theorem dX12_shuts_28 : decode cX12_shuts 28 = .ok (.ifCond .ne 7, 3) := o_154 (u1_12 hc_X12_shuts_16 rfl) (s2_d (u2_d (u1_13 hc_X12_shuts_16 rfl) (u1_14 hc_X12_shuts_16 rfl) rfl) rfl) rfl
theorem dX12_shuts_31 : decode cX12_shuts 31 = .ok (.iconst 1, 1) := o_4 (u1_15 hc_X12_shuts_16 rfl) rfl
theorem hc_X12_shuts_32 : ((bL cX12_shuts).drop 32).take 18 = [167, 0, 4, 3, 172] := by decide +kernel
theorem dX12_shuts_32 : decode cX12_shuts 32 = .ok (.goto 4, 3) := o_167 (u1_0 hc_X12_shuts_32 rfl) (s2_d (u2_d (u1_1 hc_X12_shuts_32 rfl) (u1_2 hc_X12_shuts_32 rfl) rfl) rfl) rfl
theorem dX12_shuts_35 : decode cX12_shuts 35 = .ok (.iconst 0, 1) := o_3 (u1_3 hc_X12_shuts_32 rfl) rfl
theorem dX12_shuts_36 : decode cX12_shuts 36 = .ok (.ireturn, 1) := o_172 (u1_4 hc_X12_shuts_32 rfl) rfl
theorem hc_X12_shellOf_0 : ((bL cX12_shellOf).drop 0).take 18 = [42, 180, 0, 53, 42, 180, 0, 155, 46, 61, 42, 180, 0, 101, 28, 51, 154, 0] := by decide +kernel
theorem dX12_shellOf_0 : decode cX12_shellOf 0 = .ok (.aload_n 0, 1) := o_42 (u1_0 hc_X12_shellOf_0 rfl) rfl
theorem dX12_shellOf_1 : decode cX12_shellOf 1 = .ok (.getfield 53, 3) := o_180 (u1_1 hc_X12_shellOf_0 rfl) (u2_d (u1_2 hc_X12_shellOf_0 rfl) (u1_3 hc_X12_shellOf_0 rfl) rfl) rfl
theorem dX12_shellOf_4 : decode cX12_shellOf 4 = .ok (.aload_n 0, 1) := o_42 (u1_4 hc_X12_shellOf_0 rfl) rfl
theorem dX12_shellOf_5 : decode cX12_shellOf 5 = .ok (.getfield 155, 3) := o_180 (u1_5 hc_X12_shellOf_0 rfl) (u2_d (u1_6 hc_X12_shellOf_0 rfl) (u1_7 hc_X12_shellOf_0 rfl) rfl) rfl
theorem dX12_shellOf_8 : decode cX12_shellOf 8 = .ok (.iaload, 1) := o_46 (u1_8 hc_X12_shellOf_0 rfl) rfl
theorem dX12_shellOf_9 : decode cX12_shellOf 9 = .ok (.istore_n 2, 1) := o_61 (u1_9 hc_X12_shellOf_0 rfl) rfl
theorem dX12_shellOf_10 : decode cX12_shellOf 10 = .ok (.aload_n 0, 1) := o_42 (u1_10 hc_X12_shellOf_0 rfl) rfl
theorem dX12_shellOf_11 : decode cX12_shellOf 11 = .ok (.getfield 101, 3) := o_180 (u1_11 hc_X12_shellOf_0 rfl) (u2_d (u1_12 hc_X12_shellOf_0 rfl) (u1_13 hc_X12_shellOf_0 rfl) rfl) rfl
theorem dX12_shellOf_14 : decode cX12_shellOf 14 = .ok (.iload_n 2, 1) := o_28 (u1_14 hc_X12_shellOf_0 rfl) rfl
theorem dX12_shellOf_15 : decode cX12_shellOf 15 = .ok (.baload, 1) := o_51 (u1_15 hc_X12_shellOf_0 rfl) rfl
theorem hc_X12_shellOf_16 : ((bL cX12_shellOf).drop 16).take 18 = [154, 0, 22, 42, 28, 27, 182, 1, 68, 154, 0, 13, 42, 180, 0, 53, 28, 46] := by decide +kernel
theorem dX12_shellOf_16 : decode cX12_shellOf 16 = .ok (.ifCond .ne 22, 3) := o_154 (u1_0 hc_X12_shellOf_16 rfl) (s2_d (u2_d (u1_1 hc_X12_shellOf_16 rfl) (u1_2 hc_X12_shellOf_16 rfl) rfl) rfl) rfl
theorem dX12_shellOf_19 : decode cX12_shellOf 19 = .ok (.aload_n 0, 1) := o_42 (u1_3 hc_X12_shellOf_16 rfl) rfl
theorem dX12_shellOf_20 : decode cX12_shellOf 20 = .ok (.iload_n 2, 1) := o_28 (u1_4 hc_X12_shellOf_16 rfl) rfl
theorem dX12_shellOf_21 : decode cX12_shellOf 21 = .ok (.iload_n 1, 1) := o_27 (u1_5 hc_X12_shellOf_16 rfl) rfl
theorem dX12_shellOf_22 : decode cX12_shellOf 22 = .ok (.invokevirtual 324, 3) := o_182 (u1_6 hc_X12_shellOf_16 rfl) (u2_d (u1_7 hc_X12_shellOf_16 rfl) (u1_8 hc_X12_shellOf_16 rfl) rfl) rfl
theorem dX12_shellOf_25 : decode cX12_shellOf 25 = .ok (.ifCond .ne 13, 3) := o_154 (u1_9 hc_X12_shellOf_16 rfl) (s2_d (u2_d (u1_10 hc_X12_shellOf_16 rfl) (u1_11 hc_X12_shellOf_16 rfl) rfl) rfl) rfl
theorem dX12_shellOf_28 : decode cX12_shellOf 28 = .ok (.aload_n 0, 1) := o_42 (u1_12 hc_X12_shellOf_16 rfl) rfl
theorem dX12_shellOf_29 : decode cX12_shellOf 29 = .ok (.getfield 53, 3) := o_180 (u1_13 hc_X12_shellOf_16 rfl) (u2_d (u1_14 hc_X12_shellOf_16 rfl) (u1_15 hc_X12_shellOf_16 rfl) rfl) rfl
theorem hc_X12_shellOf_32 : ((bL cX12_shellOf).drop 32).take 18 = [28, 46, 61, 167, 255, 231, 28, 172] := by decide +kernel
theorem dX12_shellOf_32 : decode cX12_shellOf 32 = .ok (.iload_n 2, 1) := o_28 (u1_0 hc_X12_shellOf_32 rfl) rfl
theorem dX12_shellOf_33 : decode cX12_shellOf 33 = .ok (.iaload, 1) := o_46 (u1_1 hc_X12_shellOf_32 rfl) rfl
theorem dX12_shellOf_34 : decode cX12_shellOf 34 = .ok (.istore_n 2, 1) := o_61 (u1_2 hc_X12_shellOf_32 rfl) rfl
theorem dX12_shellOf_35 : decode cX12_shellOf 35 = .ok (.goto (-25), 3) := o_167 (u1_3 hc_X12_shellOf_32 rfl) (s2_d (u2_d (u1_4 hc_X12_shellOf_32 rfl) (u1_5 hc_X12_shellOf_32 rfl) rfl) rfl) rfl
theorem dX12_shellOf_38 : decode cX12_shellOf 38 = .ok (.iload_n 2, 1) := o_28 (u1_6 hc_X12_shellOf_32 rfl) rfl
theorem dX12_shellOf_39 : decode cX12_shellOf 39 = .ok (.ireturn, 1) := o_172 (u1_7 hc_X12_shellOf_32 rfl) rfl
theorem hc_X12_isInView_0 : ((bL cX12_isInView).drop 0).take 18 = [27, 42, 180, 0, 155, 159, 0, 8, 27, 28, 160, 0, 26, 27, 42, 180, 0, 155] := by decide +kernel
theorem dX12_isInView_0 : decode cX12_isInView 0 = .ok (.iload_n 1, 1) := o_27 (u1_0 hc_X12_isInView_0 rfl) rfl
theorem dX12_isInView_1 : decode cX12_isInView 1 = .ok (.aload_n 0, 1) := o_42 (u1_1 hc_X12_isInView_0 rfl) rfl
theorem dX12_isInView_2 : decode cX12_isInView 2 = .ok (.getfield 155, 3) := o_180 (u1_2 hc_X12_isInView_0 rfl) (u2_d (u1_3 hc_X12_isInView_0 rfl) (u1_4 hc_X12_isInView_0 rfl) rfl) rfl
theorem dX12_isInView_5 : decode cX12_isInView 5 = .ok (.if_icmp .eq 8, 3) := o_159 (u1_5 hc_X12_isInView_0 rfl) (s2_d (u2_d (u1_6 hc_X12_isInView_0 rfl) (u1_7 hc_X12_isInView_0 rfl) rfl) rfl) rfl
theorem dX12_isInView_8 : decode cX12_isInView 8 = .ok (.iload_n 1, 1) := o_27 (u1_8 hc_X12_isInView_0 rfl) rfl
theorem dX12_isInView_9 : decode cX12_isInView 9 = .ok (.iload_n 2, 1) := o_28 (u1_9 hc_X12_isInView_0 rfl) rfl
theorem dX12_isInView_10 : decode cX12_isInView 10 = .ok (.if_icmp .ne 26, 3) := o_160 (u1_10 hc_X12_isInView_0 rfl) (s2_d (u2_d (u1_11 hc_X12_isInView_0 rfl) (u1_12 hc_X12_isInView_0 rfl) rfl) rfl) rfl
theorem dX12_isInView_13 : decode cX12_isInView 13 = .ok (.iload_n 1, 1) := o_27 (u1_13 hc_X12_isInView_0 rfl) rfl
theorem dX12_isInView_14 : decode cX12_isInView 14 = .ok (.aload_n 0, 1) := o_42 (u1_14 hc_X12_isInView_0 rfl) rfl
theorem dX12_isInView_15 : decode cX12_isInView 15 = .ok (.getfield 155, 3) := o_180 (u1_15 hc_X12_isInView_0 rfl) (u2_d (u1_16 hc_X12_isInView_0 rfl) (u1_17 hc_X12_isInView_0 rfl) rfl) rfl
theorem hc_X12_isInView_16 : ((bL cX12_isInView).drop 16).take 18 = [0, 155, 159, 0, 12, 42, 180, 0, 98, 28, 51, 153, 0, 7, 4, 167, 0, 4] := by decide +kernel
theorem dX12_isInView_18 : decode cX12_isInView 18 = .ok (.if_icmp .eq 12, 3) := o_159 (u1_2 hc_X12_isInView_16 rfl) (s2_d (u2_d (u1_3 hc_X12_isInView_16 rfl) (u1_4 hc_X12_isInView_16 rfl) rfl) rfl) rfl
theorem dX12_isInView_21 : decode cX12_isInView 21 = .ok (.aload_n 0, 1) := o_42 (u1_5 hc_X12_isInView_16 rfl) rfl
theorem dX12_isInView_22 : decode cX12_isInView 22 = .ok (.getfield 98, 3) := o_180 (u1_6 hc_X12_isInView_16 rfl) (u2_d (u1_7 hc_X12_isInView_16 rfl) (u1_8 hc_X12_isInView_16 rfl) rfl) rfl
theorem dX12_isInView_25 : decode cX12_isInView 25 = .ok (.iload_n 2, 1) := o_28 (u1_9 hc_X12_isInView_16 rfl) rfl
theorem dX12_isInView_26 : decode cX12_isInView 26 = .ok (.baload, 1) := o_51 (u1_10 hc_X12_isInView_16 rfl) rfl
theorem dX12_isInView_27 : decode cX12_isInView 27 = .ok (.ifCond .eq 7, 3) := o_153 (u1_11 hc_X12_isInView_16 rfl) (s2_d (u2_d (u1_12 hc_X12_isInView_16 rfl) (u1_13 hc_X12_isInView_16 rfl) rfl) rfl) rfl
theorem dX12_isInView_30 : decode cX12_isInView 30 = .ok (.iconst 1, 1) := o_4 (u1_14 hc_X12_isInView_16 rfl) rfl
theorem dX12_isInView_31 : decode cX12_isInView 31 = .ok (.goto 4, 3) := o_167 (u1_15 hc_X12_isInView_16 rfl) (s2_d (u2_d (u1_16 hc_X12_isInView_16 rfl) (u1_17 hc_X12_isInView_16 rfl) rfl) rfl) rfl
theorem hc_X12_isInView_32 : ((bL cX12_isInView).drop 32).take 18 = [0, 4, 3, 172, 42, 180, 0, 104, 27, 51, 153, 0, 27, 42, 180, 0, 101, 28] := by decide +kernel
theorem dX12_isInView_34 : decode cX12_isInView 34 = .ok (.iconst 0, 1) := o_3 (u1_2 hc_X12_isInView_32 rfl) rfl
theorem dX12_isInView_35 : decode cX12_isInView 35 = .ok (.ireturn, 1) := o_172 (u1_3 hc_X12_isInView_32 rfl) rfl
theorem dX12_isInView_36 : decode cX12_isInView 36 = .ok (.aload_n 0, 1) := o_42 (u1_4 hc_X12_isInView_32 rfl) rfl
theorem dX12_isInView_37 : decode cX12_isInView 37 = .ok (.getfield 104, 3) := o_180 (u1_5 hc_X12_isInView_32 rfl) (u2_d (u1_6 hc_X12_isInView_32 rfl) (u1_7 hc_X12_isInView_32 rfl) rfl) rfl
theorem dX12_isInView_40 : decode cX12_isInView 40 = .ok (.iload_n 1, 1) := o_27 (u1_8 hc_X12_isInView_32 rfl) rfl
theorem dX12_isInView_41 : decode cX12_isInView 41 = .ok (.baload, 1) := o_51 (u1_9 hc_X12_isInView_32 rfl) rfl
theorem dX12_isInView_42 : decode cX12_isInView 42 = .ok (.ifCond .eq 27, 3) := o_153 (u1_10 hc_X12_isInView_32 rfl) (s2_d (u2_d (u1_11 hc_X12_isInView_32 rfl) (u1_12 hc_X12_isInView_32 rfl) rfl) rfl) rfl
theorem dX12_isInView_45 : decode cX12_isInView 45 = .ok (.aload_n 0, 1) := o_42 (u1_13 hc_X12_isInView_32 rfl) rfl
theorem dX12_isInView_46 : decode cX12_isInView 46 = .ok (.getfield 101, 3) := o_180 (u1_14 hc_X12_isInView_32 rfl) (u2_d (u1_15 hc_X12_isInView_32 rfl) (u1_16 hc_X12_isInView_32 rfl) rfl) rfl
theorem hc_X12_isInView_48 : ((bL cX12_isInView).drop 48).take 18 = [101, 28, 51, 153, 0, 16, 42, 27, 28, 182, 1, 72, 153, 0, 7, 4, 167, 0] := by decide +kernel
theorem dX12_isInView_49 : decode cX12_isInView 49 = .ok (.iload_n 2, 1) := o_28 (u1_1 hc_X12_isInView_48 rfl) rfl
theorem dX12_isInView_50 : decode cX12_isInView 50 = .ok (.baload, 1) := o_51 (u1_2 hc_X12_isInView_48 rfl) rfl
theorem dX12_isInView_51 : decode cX12_isInView 51 = .ok (.ifCond .eq 16, 3) := o_153 (u1_3 hc_X12_isInView_48 rfl) (s2_d (u2_d (u1_4 hc_X12_isInView_48 rfl) (u1_5 hc_X12_isInView_48 rfl) rfl) rfl) rfl
theorem dX12_isInView_54 : decode cX12_isInView 54 = .ok (.aload_n 0, 1) := o_42 (u1_6 hc_X12_isInView_48 rfl) rfl
theorem dX12_isInView_55 : decode cX12_isInView 55 = .ok (.iload_n 1, 1) := o_27 (u1_7 hc_X12_isInView_48 rfl) rfl
theorem dX12_isInView_56 : decode cX12_isInView 56 = .ok (.iload_n 2, 1) := o_28 (u1_8 hc_X12_isInView_48 rfl) rfl
theorem dX12_isInView_57 : decode cX12_isInView 57 = .ok (.invokevirtual 328, 3) := o_182 (u1_9 hc_X12_isInView_48 rfl) (u2_d (u1_10 hc_X12_isInView_48 rfl) (u1_11 hc_X12_isInView_48 rfl) rfl) rfl
theorem dX12_isInView_60 : decode cX12_isInView 60 = .ok (.ifCond .eq 7, 3) := o_153 (u1_12 hc_X12_isInView_48 rfl) (s2_d (u2_d (u1_13 hc_X12_isInView_48 rfl) (u1_14 hc_X12_isInView_48 rfl) rfl) rfl) rfl
theorem dX12_isInView_63 : decode cX12_isInView 63 = .ok (.iconst 1, 1) := o_4 (u1_15 hc_X12_isInView_48 rfl) rfl
theorem hc_X12_isInView_64 : ((bL cX12_isInView).drop 64).take 18 = [167, 0, 4, 3, 172, 27, 54, 4, 42, 180, 0, 50, 21, 4, 46, 16, 247, 159] := by decide +kernel
theorem dX12_isInView_64 : decode cX12_isInView 64 = .ok (.goto 4, 3) := o_167 (u1_0 hc_X12_isInView_64 rfl) (s2_d (u2_d (u1_1 hc_X12_isInView_64 rfl) (u1_2 hc_X12_isInView_64 rfl) rfl) rfl) rfl
theorem dX12_isInView_67 : decode cX12_isInView 67 = .ok (.iconst 0, 1) := o_3 (u1_3 hc_X12_isInView_64 rfl) rfl
theorem dX12_isInView_68 : decode cX12_isInView 68 = .ok (.ireturn, 1) := o_172 (u1_4 hc_X12_isInView_64 rfl) rfl
theorem dX12_isInView_69 : decode cX12_isInView 69 = .ok (.iload_n 1, 1) := o_27 (u1_5 hc_X12_isInView_64 rfl) rfl
theorem dX12_isInView_70 : decode cX12_isInView 70 = .ok (.istore 4, 2) := o_54 (u1_6 hc_X12_isInView_64 rfl) (u1_7 hc_X12_isInView_64 rfl) rfl
theorem dX12_isInView_72 : decode cX12_isInView 72 = .ok (.aload_n 0, 1) := o_42 (u1_8 hc_X12_isInView_64 rfl) rfl
theorem dX12_isInView_73 : decode cX12_isInView 73 = .ok (.getfield 50, 3) := o_180 (u1_9 hc_X12_isInView_64 rfl) (u2_d (u1_10 hc_X12_isInView_64 rfl) (u1_11 hc_X12_isInView_64 rfl) rfl) rfl
theorem dX12_isInView_76 : decode cX12_isInView 76 = .ok (.iload 4, 2) := o_21 (u1_12 hc_X12_isInView_64 rfl) (u1_13 hc_X12_isInView_64 rfl) rfl
theorem dX12_isInView_78 : decode cX12_isInView 78 = .ok (.iaload, 1) := o_46 (u1_14 hc_X12_isInView_64 rfl) rfl
theorem dX12_isInView_79 : decode cX12_isInView 79 = .ok (.bipush (-9), 2) := o_16 (u1_15 hc_X12_isInView_64 rfl) (s1_d (u1_16 hc_X12_isInView_64 rfl) rfl) rfl
theorem hc_X12_isInView_80 : ((bL cX12_isInView).drop 80).take 18 = [247, 159, 0, 32, 42, 180, 0, 53, 21, 4, 46, 54, 4, 21, 4, 28, 160, 0] := by decide +kernel
theorem dX12_isInView_81 : decode cX12_isInView 81 = .ok (.if_icmp .eq 32, 3) := o_159 (u1_1 hc_X12_isInView_80 rfl) (s2_d (u2_d (u1_2 hc_X12_isInView_80 rfl) (u1_3 hc_X12_isInView_80 rfl) rfl) rfl) rfl
theorem dX12_isInView_84 : decode cX12_isInView 84 = .ok (.aload_n 0, 1) := o_42 (u1_4 hc_X12_isInView_80 rfl) rfl
theorem dX12_isInView_85 : decode cX12_isInView 85 = .ok (.getfield 53, 3) := o_180 (u1_5 hc_X12_isInView_80 rfl) (u2_d (u1_6 hc_X12_isInView_80 rfl) (u1_7 hc_X12_isInView_80 rfl) rfl) rfl
theorem dX12_isInView_88 : decode cX12_isInView 88 = .ok (.iload 4, 2) := o_21 (u1_8 hc_X12_isInView_80 rfl) (u1_9 hc_X12_isInView_80 rfl) rfl
theorem dX12_isInView_90 : decode cX12_isInView 90 = .ok (.iaload, 1) := o_46 (u1_10 hc_X12_isInView_80 rfl) rfl
theorem dX12_isInView_91 : decode cX12_isInView 91 = .ok (.istore 4, 2) := o_54 (u1_11 hc_X12_isInView_80 rfl) (u1_12 hc_X12_isInView_80 rfl) rfl
theorem dX12_isInView_93 : decode cX12_isInView 93 = .ok (.iload 4, 2) := o_21 (u1_13 hc_X12_isInView_80 rfl) (u1_14 hc_X12_isInView_80 rfl) rfl
theorem dX12_isInView_95 : decode cX12_isInView 95 = .ok (.iload_n 2, 1) := o_28 (u1_15 hc_X12_isInView_80 rfl) rfl
theorem hc_X12_isInView_96 : ((bL cX12_isInView).drop 96).take 18 = [160, 0, 5, 4, 172, 42, 21, 4, 29, 182, 1, 68, 153, 255, 220, 3, 172, 3] := by decide +kernel
theorem dX12_isInView_96 : decode cX12_isInView 96 = .ok (.if_icmp .ne 5, 3) := o_160 (u1_0 hc_X12_isInView_96 rfl) (s2_d (u2_d (u1_1 hc_X12_isInView_96 rfl) (u1_2 hc_X12_isInView_96 rfl) rfl) rfl) rfl
theorem dX12_isInView_99 : decode cX12_isInView 99 = .ok (.iconst 1, 1) := o_4 (u1_3 hc_X12_isInView_96 rfl) rfl
theorem dX12_isInView_100 : decode cX12_isInView 100 = .ok (.ireturn, 1) := o_172 (u1_4 hc_X12_isInView_96 rfl) rfl
theorem dX12_isInView_101 : decode cX12_isInView 101 = .ok (.aload_n 0, 1) := o_42 (u1_5 hc_X12_isInView_96 rfl) rfl
theorem dX12_isInView_102 : decode cX12_isInView 102 = .ok (.iload 4, 2) := o_21 (u1_6 hc_X12_isInView_96 rfl) (u1_7 hc_X12_isInView_96 rfl) rfl
theorem dX12_isInView_104 : decode cX12_isInView 104 = .ok (.iload_n 3, 1) := o_29 (u1_8 hc_X12_isInView_96 rfl) rfl
theorem dX12_isInView_105 : decode cX12_isInView 105 = .ok (.invokevirtual 324, 3) := o_182 (u1_9 hc_X12_isInView_96 rfl) (u2_d (u1_10 hc_X12_isInView_96 rfl) (u1_11 hc_X12_isInView_96 rfl) rfl) rfl
theorem dX12_isInView_108 : decode cX12_isInView 108 = .ok (.ifCond .eq (-36), 3) := o_153 (u1_12 hc_X12_isInView_96 rfl) (s2_d (u2_d (u1_13 hc_X12_isInView_96 rfl) (u1_14 hc_X12_isInView_96 rfl) rfl) rfl) rfl
theorem dX12_isInView_111 : decode cX12_isInView 111 = .ok (.iconst 0, 1) := o_3 (u1_15 hc_X12_isInView_96 rfl) rfl
theorem hc_X12_isInView_112 : ((bL cX12_isInView).drop 112).take 18 = [172, 3, 172] := by decide +kernel
theorem dX12_isInView_112 : decode cX12_isInView 112 = .ok (.ireturn, 1) := o_172 (u1_0 hc_X12_isInView_112 rfl) rfl
theorem dX12_isInView_113 : decode cX12_isInView 113 = .ok (.iconst 0, 1) := o_3 (u1_1 hc_X12_isInView_112 rfl) rfl
theorem dX12_isInView_114 : decode cX12_isInView 114 = .ok (.ireturn, 1) := o_172 (u1_2 hc_X12_isInView_112 rfl) rfl
theorem hc_X12_lookAround_0 : ((bL cX12_lookAround).drop 0).take 18 = [42, 42, 3, 182, 1, 75, 181, 1, 79, 42, 42, 4, 182, 1, 75, 181, 1, 82] := by decide +kernel
theorem dX12_lookAround_0 : decode cX12_lookAround 0 = .ok (.aload_n 0, 1) := o_42 (u1_0 hc_X12_lookAround_0 rfl) rfl
theorem dX12_lookAround_1 : decode cX12_lookAround 1 = .ok (.aload_n 0, 1) := o_42 (u1_1 hc_X12_lookAround_0 rfl) rfl
theorem dX12_lookAround_2 : decode cX12_lookAround 2 = .ok (.iconst 0, 1) := o_3 (u1_2 hc_X12_lookAround_0 rfl) rfl
theorem dX12_lookAround_3 : decode cX12_lookAround 3 = .ok (.invokevirtual 331, 3) := o_182 (u1_3 hc_X12_lookAround_0 rfl) (u2_d (u1_4 hc_X12_lookAround_0 rfl) (u1_5 hc_X12_lookAround_0 rfl) rfl) rfl
theorem dX12_lookAround_6 : decode cX12_lookAround 6 = .ok (.putfield 335, 3) := o_181 (u1_6 hc_X12_lookAround_0 rfl) (u2_d (u1_7 hc_X12_lookAround_0 rfl) (u1_8 hc_X12_lookAround_0 rfl) rfl) rfl
theorem dX12_lookAround_9 : decode cX12_lookAround 9 = .ok (.aload_n 0, 1) := o_42 (u1_9 hc_X12_lookAround_0 rfl) rfl
theorem dX12_lookAround_10 : decode cX12_lookAround 10 = .ok (.aload_n 0, 1) := o_42 (u1_10 hc_X12_lookAround_0 rfl) rfl
theorem dX12_lookAround_11 : decode cX12_lookAround 11 = .ok (.iconst 1, 1) := o_4 (u1_11 hc_X12_lookAround_0 rfl) rfl
theorem dX12_lookAround_12 : decode cX12_lookAround 12 = .ok (.invokevirtual 331, 3) := o_182 (u1_12 hc_X12_lookAround_0 rfl) (u2_d (u1_13 hc_X12_lookAround_0 rfl) (u1_14 hc_X12_lookAround_0 rfl) rfl) rfl
theorem dX12_lookAround_15 : decode cX12_lookAround 15 = .ok (.putfield 338, 3) := o_181 (u1_15 hc_X12_lookAround_0 rfl) (u2_d (u1_16 hc_X12_lookAround_0 rfl) (u1_17 hc_X12_lookAround_0 rfl) rfl) rfl
theorem hc_X12_lookAround_16 : ((bL cX12_lookAround).drop 16).take 18 = [1, 82, 42, 42, 180, 0, 101, 42, 180, 1, 79, 51, 153, 0, 19, 42, 180, 0] := by decide +kernel
theorem dX12_lookAround_18 : decode cX12_lookAround 18 = .ok (.aload_n 0, 1) := o_42 (u1_2 hc_X12_lookAround_16 rfl) rfl
theorem dX12_lookAround_19 : decode cX12_lookAround 19 = .ok (.aload_n 0, 1) := o_42 (u1_3 hc_X12_lookAround_16 rfl) rfl
theorem dX12_lookAround_20 : decode cX12_lookAround 20 = .ok (.getfield 101, 3) := o_180 (u1_4 hc_X12_lookAround_16 rfl) (u2_d (u1_5 hc_X12_lookAround_16 rfl) (u1_6 hc_X12_lookAround_16 rfl) rfl) rfl
theorem dX12_lookAround_23 : decode cX12_lookAround 23 = .ok (.aload_n 0, 1) := o_42 (u1_7 hc_X12_lookAround_16 rfl) rfl
theorem dX12_lookAround_24 : decode cX12_lookAround 24 = .ok (.getfield 335, 3) := o_180 (u1_8 hc_X12_lookAround_16 rfl) (u2_d (u1_9 hc_X12_lookAround_16 rfl) (u1_10 hc_X12_lookAround_16 rfl) rfl) rfl
theorem dX12_lookAround_27 : decode cX12_lookAround 27 = .ok (.baload, 1) := o_51 (u1_11 hc_X12_lookAround_16 rfl) rfl
theorem dX12_lookAround_28 : decode cX12_lookAround 28 = .ok (.ifCond .eq 19, 3) := o_153 (u1_12 hc_X12_lookAround_16 rfl) (s2_d (u2_d (u1_13 hc_X12_lookAround_16 rfl) (u1_14 hc_X12_lookAround_16 rfl) rfl) rfl) rfl
theorem dX12_lookAround_31 : decode cX12_lookAround 31 = .ok (.aload_n 0, 1) := o_42 (u1_15 hc_X12_lookAround_16 rfl) rfl
theorem hc_X12_lookAround_32 : ((bL cX12_lookAround).drop 32).take 18 = [180, 0, 92, 42, 180, 1, 79, 51, 153, 0, 7, 4, 167, 0, 4, 3, 181, 1] := by decide +kernel
theorem dX12_lookAround_32 : decode cX12_lookAround 32 = .ok (.getfield 92, 3) := o_180 (u1_0 hc_X12_lookAround_32 rfl) (u2_d (u1_1 hc_X12_lookAround_32 rfl) (u1_2 hc_X12_lookAround_32 rfl) rfl) rfl
theorem dX12_lookAround_35 : decode cX12_lookAround 35 = .ok (.aload_n 0, 1) := o_42 (u1_3 hc_X12_lookAround_32 rfl) rfl
theorem dX12_lookAround_36 : decode cX12_lookAround 36 = .ok (.getfield 335, 3) := o_180 (u1_4 hc_X12_lookAround_32 rfl) (u2_d (u1_5 hc_X12_lookAround_32 rfl) (u1_6 hc_X12_lookAround_32 rfl) rfl) rfl
theorem dX12_lookAround_39 : decode cX12_lookAround 39 = .ok (.baload, 1) := o_51 (u1_7 hc_X12_lookAround_32 rfl) rfl
theorem dX12_lookAround_40 : decode cX12_lookAround 40 = .ok (.ifCond .eq 7, 3) := o_153 (u1_8 hc_X12_lookAround_32 rfl) (s2_d (u2_d (u1_9 hc_X12_lookAround_32 rfl) (u1_10 hc_X12_lookAround_32 rfl) rfl) rfl) rfl
theorem dX12_lookAround_43 : decode cX12_lookAround 43 = .ok (.iconst 1, 1) := o_4 (u1_11 hc_X12_lookAround_32 rfl) rfl
theorem dX12_lookAround_44 : decode cX12_lookAround 44 = .ok (.goto 4, 3) := o_167 (u1_12 hc_X12_lookAround_32 rfl) (s2_d (u2_d (u1_13 hc_X12_lookAround_32 rfl) (u1_14 hc_X12_lookAround_32 rfl) rfl) rfl) rfl
theorem dX12_lookAround_47 : decode cX12_lookAround 47 = .ok (.iconst 0, 1) := o_3 (u1_15 hc_X12_lookAround_32 rfl) rfl
theorem hc_X12_lookAround_48 : ((bL cX12_lookAround).drop 48).take 18 = [181, 1, 85, 3, 60, 27, 42, 180, 0, 177, 162, 0, 56, 42, 180, 1, 85, 154] := by decide +kernel
theorem dX12_lookAround_48 : decode cX12_lookAround 48 = .ok (.putfield 341, 3) := o_181 (u1_0 hc_X12_lookAround_48 rfl) (u2_d (u1_1 hc_X12_lookAround_48 rfl) (u1_2 hc_X12_lookAround_48 rfl) rfl) rfl
theorem dX12_lookAround_51 : decode cX12_lookAround 51 = .ok (.iconst 0, 1) := o_3 (u1_3 hc_X12_lookAround_48 rfl) rfl
theorem dX12_lookAround_52 : decode cX12_lookAround 52 = .ok (.istore_n 1, 1) := o_60 (u1_4 hc_X12_lookAround_48 rfl) rfl
theorem dX12_lookAround_53 : decode cX12_lookAround 53 = .ok (.iload_n 1, 1) := o_27 (u1_5 hc_X12_lookAround_48 rfl) rfl
theorem dX12_lookAround_54 : decode cX12_lookAround 54 = .ok (.aload_n 0, 1) := o_42 (u1_6 hc_X12_lookAround_48 rfl) rfl
theorem dX12_lookAround_55 : decode cX12_lookAround 55 = .ok (.getfield 177, 3) := o_180 (u1_7 hc_X12_lookAround_48 rfl) (u2_d (u1_8 hc_X12_lookAround_48 rfl) (u1_9 hc_X12_lookAround_48 rfl) rfl) rfl
theorem dX12_lookAround_58 : decode cX12_lookAround 58 = .ok (.if_icmp .ge 56, 3) := o_162 (u1_10 hc_X12_lookAround_48 rfl) (s2_d (u2_d (u1_11 hc_X12_lookAround_48 rfl) (u1_12 hc_X12_lookAround_48 rfl) rfl) rfl) rfl
theorem dX12_lookAround_61 : decode cX12_lookAround 61 = .ok (.aload_n 0, 1) := o_42 (u1_13 hc_X12_lookAround_48 rfl) rfl
theorem dX12_lookAround_62 : decode cX12_lookAround 62 = .ok (.getfield 341, 3) := o_180 (u1_14 hc_X12_lookAround_48 rfl) (u2_d (u1_15 hc_X12_lookAround_48 rfl) (u1_16 hc_X12_lookAround_48 rfl) rfl) rfl
theorem hc_X12_lookAround_64 : ((bL cX12_lookAround).drop 64).take 18 = [85, 154, 0, 49, 42, 42, 180, 0, 101, 27, 51, 154, 0, 29, 42, 180, 0, 92] := by decide +kernel
theorem dX12_lookAround_65 : decode cX12_lookAround 65 = .ok (.ifCond .ne 49, 3) := o_154 (u1_1 hc_X12_lookAround_64 rfl) (s2_d (u2_d (u1_2 hc_X12_lookAround_64 rfl) (u1_3 hc_X12_lookAround_64 rfl) rfl) rfl) rfl
theorem dX12_lookAround_68 : decode cX12_lookAround 68 = .ok (.aload_n 0, 1) := o_42 (u1_4 hc_X12_lookAround_64 rfl) rfl
theorem dX12_lookAround_69 : decode cX12_lookAround 69 = .ok (.aload_n 0, 1) := o_42 (u1_5 hc_X12_lookAround_64 rfl) rfl
theorem dX12_lookAround_70 : decode cX12_lookAround 70 = .ok (.getfield 101, 3) := o_180 (u1_6 hc_X12_lookAround_64 rfl) (u2_d (u1_7 hc_X12_lookAround_64 rfl) (u1_8 hc_X12_lookAround_64 rfl) rfl) rfl
theorem dX12_lookAround_73 : decode cX12_lookAround 73 = .ok (.iload_n 1, 1) := o_27 (u1_9 hc_X12_lookAround_64 rfl) rfl
theorem dX12_lookAround_74 : decode cX12_lookAround 74 = .ok (.baload, 1) := o_51 (u1_10 hc_X12_lookAround_64 rfl) rfl
theorem dX12_lookAround_75 : decode cX12_lookAround 75 = .ok (.ifCond .ne 29, 3) := o_154 (u1_11 hc_X12_lookAround_64 rfl) (s2_d (u2_d (u1_12 hc_X12_lookAround_64 rfl) (u1_13 hc_X12_lookAround_64 rfl) rfl) rfl) rfl
theorem dX12_lookAround_78 : decode cX12_lookAround 78 = .ok (.aload_n 0, 1) := o_42 (u1_14 hc_X12_lookAround_64 rfl) rfl
theorem dX12_lookAround_79 : decode cX12_lookAround 79 = .ok (.getfield 92, 3) := o_180 (u1_15 hc_X12_lookAround_64 rfl) (u2_d (u1_16 hc_X12_lookAround_64 rfl) (u1_17 hc_X12_lookAround_64 rfl) rfl) rfl
theorem hc_X12_lookAround_80 : ((bL cX12_lookAround).drop 80).take 18 = [0, 92, 27, 51, 153, 0, 20, 42, 27, 42, 180, 1, 79, 3, 182, 1, 88, 153] := by decide +kernel
theorem dX12_lookAround_82 : decode cX12_lookAround 82 = .ok (.iload_n 1, 1) := o_27 (u1_2 hc_X12_lookAround_80 rfl) rfl
theorem dX12_lookAround_83 : decode cX12_lookAround 83 = .ok (.baload, 1) := o_51 (u1_3 hc_X12_lookAround_80 rfl) rfl
theorem dX12_lookAround_84 : decode cX12_lookAround 84 = .ok (.ifCond .eq 20, 3) := o_153 (u1_4 hc_X12_lookAround_80 rfl) (s2_d (u2_d (u1_5 hc_X12_lookAround_80 rfl) (u1_6 hc_X12_lookAround_80 rfl) rfl) rfl) rfl
theorem dX12_lookAround_87 : decode cX12_lookAround 87 = .ok (.aload_n 0, 1) := o_42 (u1_7 hc_X12_lookAround_80 rfl) rfl
theorem dX12_lookAround_88 : decode cX12_lookAround 88 = .ok (.iload_n 1, 1) := o_27 (u1_8 hc_X12_lookAround_80 rfl) rfl
theorem dX12_lookAround_89 : decode cX12_lookAround 89 = .ok (.aload_n 0, 1) := o_42 (u1_9 hc_X12_lookAround_80 rfl) rfl
theorem dX12_lookAround_90 : decode cX12_lookAround 90 = .ok (.getfield 335, 3) := o_180 (u1_10 hc_X12_lookAround_80 rfl) (u2_d (u1_11 hc_X12_lookAround_80 rfl) (u1_12 hc_X12_lookAround_80 rfl) rfl) rfl
theorem dX12_lookAround_93 : decode cX12_lookAround 93 = .ok (.iconst 0, 1) := o_3 (u1_13 hc_X12_lookAround_80 rfl) rfl
theorem dX12_lookAround_94 : decode cX12_lookAround 94 = .ok (.invokevirtual 344, 3) := o_182 (u1_14 hc_X12_lookAround_80 rfl) (u2_d (u1_15 hc_X12_lookAround_80 rfl) (u1_16 hc_X12_lookAround_80 rfl) rfl) rfl
theorem hc_X12_lookAround_96 : ((bL cX12_lookAround).drop 96).take 18 = [88, 153, 0, 7, 4, 167, 0, 4, 3, 181, 1, 85, 132, 1, 1, 167, 255, 198] := by decide +kernel
theorem dX12_lookAround_97 : decode cX12_lookAround 97 = .ok (.ifCond .eq 7, 3) := o_153 (u1_1 hc_X12_lookAround_96 rfl) (s2_d (u2_d (u1_2 hc_X12_lookAround_96 rfl) (u1_3 hc_X12_lookAround_96 rfl) rfl) rfl) rfl
theorem dX12_lookAround_100 : decode cX12_lookAround 100 = .ok (.iconst 1, 1) := o_4 (u1_4 hc_X12_lookAround_96 rfl) rfl
theorem dX12_lookAround_101 : decode cX12_lookAround 101 = .ok (.goto 4, 3) := o_167 (u1_5 hc_X12_lookAround_96 rfl) (s2_d (u2_d (u1_6 hc_X12_lookAround_96 rfl) (u1_7 hc_X12_lookAround_96 rfl) rfl) rfl) rfl
theorem dX12_lookAround_104 : decode cX12_lookAround 104 = .ok (.iconst 0, 1) := o_3 (u1_8 hc_X12_lookAround_96 rfl) rfl
theorem dX12_lookAround_105 : decode cX12_lookAround 105 = .ok (.putfield 341, 3) := o_181 (u1_9 hc_X12_lookAround_96 rfl) (u2_d (u1_10 hc_X12_lookAround_96 rfl) (u1_11 hc_X12_lookAround_96 rfl) rfl) rfl
theorem dX12_lookAround_108 : decode cX12_lookAround 108 = .ok (.iinc 1 1, 3) := o_132 (u1_12 hc_X12_lookAround_96 rfl) (u1_13 hc_X12_lookAround_96 rfl) (s1_d (u1_14 hc_X12_lookAround_96 rfl) rfl) rfl
theorem dX12_lookAround_111 : decode cX12_lookAround 111 = .ok (.goto (-58), 3) := o_167 (u1_15 hc_X12_lookAround_96 rfl) (s2_d (u2_d (u1_16 hc_X12_lookAround_96 rfl) (u1_17 hc_X12_lookAround_96 rfl) rfl) rfl) rfl
theorem hc_X12_lookAround_112 : ((bL cX12_lookAround).drop 112).take 18 = [255, 198, 3, 60, 27, 42, 180, 0, 177, 162, 0, 116, 42, 180, 0, 53, 27, 46] := by decide +kernel
theorem dX12_lookAround_114 : decode cX12_lookAround 114 = .ok (.iconst 0, 1) := o_3 (u1_2 hc_X12_lookAround_112 rfl) rfl
theorem dX12_lookAround_115 : decode cX12_lookAround 115 = .ok (.istore_n 1, 1) := o_60 (u1_3 hc_X12_lookAround_112 rfl) rfl
theorem dX12_lookAround_116 : decode cX12_lookAround 116 = .ok (.iload_n 1, 1) := o_27 (u1_4 hc_X12_lookAround_112 rfl) rfl
theorem dX12_lookAround_117 : decode cX12_lookAround 117 = .ok (.aload_n 0, 1) := o_42 (u1_5 hc_X12_lookAround_112 rfl) rfl
theorem dX12_lookAround_118 : decode cX12_lookAround 118 = .ok (.getfield 177, 3) := o_180 (u1_6 hc_X12_lookAround_112 rfl) (u2_d (u1_7 hc_X12_lookAround_112 rfl) (u1_8 hc_X12_lookAround_112 rfl) rfl) rfl
theorem dX12_lookAround_121 : decode cX12_lookAround 121 = .ok (.if_icmp .ge 116, 3) := o_162 (u1_9 hc_X12_lookAround_112 rfl) (s2_d (u2_d (u1_10 hc_X12_lookAround_112 rfl) (u1_11 hc_X12_lookAround_112 rfl) rfl) rfl) rfl
theorem dX12_lookAround_124 : decode cX12_lookAround 124 = .ok (.aload_n 0, 1) := o_42 (u1_12 hc_X12_lookAround_112 rfl) rfl
theorem dX12_lookAround_125 : decode cX12_lookAround 125 = .ok (.getfield 53, 3) := o_180 (u1_13 hc_X12_lookAround_112 rfl) (u2_d (u1_14 hc_X12_lookAround_112 rfl) (u1_15 hc_X12_lookAround_112 rfl) rfl) rfl
theorem hc_X12_lookAround_128 : ((bL cX12_lookAround).drop 128).take 18 = [27, 46, 42, 180, 0, 155, 160, 0, 27, 42, 180, 0, 50, 27, 46, 5, 159, 0] := by decide +kernel
theorem dX12_lookAround_128 : decode cX12_lookAround 128 = .ok (.iload_n 1, 1) := o_27 (u1_0 hc_X12_lookAround_128 rfl) rfl
theorem dX12_lookAround_129 : decode cX12_lookAround 129 = .ok (.iaload, 1) := o_46 (u1_1 hc_X12_lookAround_128 rfl) rfl
theorem dX12_lookAround_130 : decode cX12_lookAround 130 = .ok (.aload_n 0, 1) := o_42 (u1_2 hc_X12_lookAround_128 rfl) rfl
theorem dX12_lookAround_131 : decode cX12_lookAround 131 = .ok (.getfield 155, 3) := o_180 (u1_3 hc_X12_lookAround_128 rfl) (u2_d (u1_4 hc_X12_lookAround_128 rfl) (u1_5 hc_X12_lookAround_128 rfl) rfl) rfl
theorem dX12_lookAround_134 : decode cX12_lookAround 134 = .ok (.if_icmp .ne 27, 3) := o_160 (u1_6 hc_X12_lookAround_128 rfl) (s2_d (u2_d (u1_7 hc_X12_lookAround_128 rfl) (u1_8 hc_X12_lookAround_128 rfl) rfl) rfl) rfl
theorem dX12_lookAround_137 : decode cX12_lookAround 137 = .ok (.aload_n 0, 1) := o_42 (u1_9 hc_X12_lookAround_128 rfl) rfl
theorem dX12_lookAround_138 : decode cX12_lookAround 138 = .ok (.getfield 50, 3) := o_180 (u1_10 hc_X12_lookAround_128 rfl) (u2_d (u1_11 hc_X12_lookAround_128 rfl) (u1_12 hc_X12_lookAround_128 rfl) rfl) rfl
theorem dX12_lookAround_141 : decode cX12_lookAround 141 = .ok (.iload_n 1, 1) := o_27 (u1_13 hc_X12_lookAround_128 rfl) rfl
theorem dX12_lookAround_142 : decode cX12_lookAround 142 = .ok (.iaload, 1) := o_46 (u1_14 hc_X12_lookAround_128 rfl) rfl
theorem dX12_lookAround_143 : decode cX12_lookAround 143 = .ok (.iconst 2, 1) := o_5 (u1_15 hc_X12_lookAround_128 rfl) rfl
theorem hc_X12_lookAround_144 : ((bL cX12_lookAround).drop 144).take 18 = [159, 0, 13, 42, 180, 0, 50, 27, 46, 6, 160, 0, 7, 4, 167, 0, 4, 3] := by decide +kernel
theorem dX12_lookAround_144 : decode cX12_lookAround 144 = .ok (.if_icmp .eq 13, 3) := o_159 (u1_0 hc_X12_lookAround_144 rfl) (s2_d (u2_d (u1_1 hc_X12_lookAround_144 rfl) (u1_2 hc_X12_lookAround_144 rfl) rfl) rfl) rfl
theorem dX12_lookAround_147 : decode cX12_lookAround 147 = .ok (.aload_n 0, 1) := o_42 (u1_3 hc_X12_lookAround_144 rfl) rfl
theorem dX12_lookAround_148 : decode cX12_lookAround 148 = .ok (.getfield 50, 3) := o_180 (u1_4 hc_X12_lookAround_144 rfl) (u2_d (u1_5 hc_X12_lookAround_144 rfl) (u1_6 hc_X12_lookAround_144 rfl) rfl) rfl
theorem dX12_lookAround_151 : decode cX12_lookAround 151 = .ok (.iload_n 1, 1) := o_27 (u1_7 hc_X12_lookAround_144 rfl) rfl
theorem dX12_lookAround_152 : decode cX12_lookAround 152 = .ok (.iaload, 1) := o_46 (u1_8 hc_X12_lookAround_144 rfl) rfl
theorem dX12_lookAround_153 : decode cX12_lookAround 153 = .ok (.iconst 3, 1) := o_6 (u1_9 hc_X12_lookAround_144 rfl) rfl
theorem dX12_lookAround_154 : decode cX12_lookAround 154 = .ok (.if_icmp .ne 7, 3) := o_160 (u1_10 hc_X12_lookAround_144 rfl) (s2_d (u2_d (u1_11 hc_X12_lookAround_144 rfl) (u1_12 hc_X12_lookAround_144 rfl) rfl) rfl) rfl
theorem dX12_lookAround_157 : decode cX12_lookAround 157 = .ok (.iconst 1, 1) := o_4 (u1_13 hc_X12_lookAround_144 rfl) rfl
theorem dX12_lookAround_158 : decode cX12_lookAround 158 = .ok (.goto 4, 3) := o_167 (u1_14 hc_X12_lookAround_144 rfl) (s2_d (u2_d (u1_15 hc_X12_lookAround_144 rfl) (u1_16 hc_X12_lookAround_144 rfl) rfl) rfl) rfl
theorem hc_X12_lookAround_160 : ((bL cX12_lookAround).drop 160).take 18 = [4, 3, 61, 42, 180, 0, 86, 27, 28, 154, 0, 23, 42, 180, 1, 85, 153, 0] := by decide +kernel
theorem dX12_lookAround_161 : decode cX12_lookAround 161 = .ok (.iconst 0, 1) := o_3 (u1_1 hc_X12_lookAround_160 rfl) rfl
theorem dX12_lookAround_162 : decode cX12_lookAround 162 = .ok (.istore_n 2, 1) := o_61 (u1_2 hc_X12_lookAround_160 rfl) rfl
theorem dX12_lookAround_163 : decode cX12_lookAround 163 = .ok (.aload_n 0, 1) := o_42 (u1_3 hc_X12_lookAround_160 rfl) rfl
theorem dX12_lookAround_164 : decode cX12_lookAround 164 = .ok (.getfield 86, 3) := o_180 (u1_4 hc_X12_lookAround_160 rfl) (u2_d (u1_5 hc_X12_lookAround_160 rfl) (u1_6 hc_X12_lookAround_160 rfl) rfl) rfl
theorem dX12_lookAround_167 : decode cX12_lookAround 167 = .ok (.iload_n 1, 1) := o_27 (u1_7 hc_X12_lookAround_160 rfl) rfl
theorem dX12_lookAround_168 : decode cX12_lookAround 168 = .ok (.iload_n 2, 1) := o_28 (u1_8 hc_X12_lookAround_160 rfl) rfl
theorem dX12_lookAround_169 : decode cX12_lookAround 169 = .ok (.ifCond .ne 23, 3) := o_154 (u1_9 hc_X12_lookAround_160 rfl) (s2_d (u2_d (u1_10 hc_X12_lookAround_160 rfl) (u1_11 hc_X12_lookAround_160 rfl) rfl) rfl) rfl
theorem dX12_lookAround_172 : decode cX12_lookAround 172 = .ok (.aload_n 0, 1) := o_42 (u1_12 hc_X12_lookAround_160 rfl) rfl
theorem dX12_lookAround_173 : decode cX12_lookAround 173 = .ok (.getfield 341, 3) := o_180 (u1_13 hc_X12_lookAround_160 rfl) (u2_d (u1_14 hc_X12_lookAround_160 rfl) (u1_15 hc_X12_lookAround_160 rfl) rfl) rfl
theorem hc_X12_lookAround_176 : ((bL cX12_lookAround).drop 176).take 18 = [153, 0, 20, 42, 27, 42, 180, 1, 79, 3, 182, 1, 88, 153, 0, 7, 4, 167] := by decide +kernel
theorem dX12_lookAround_176 : decode cX12_lookAround 176 = .ok (.ifCond .eq 20, 3) := o_153 (u1_0 hc_X12_lookAround_176 rfl) (s2_d (u2_d (u1_1 hc_X12_lookAround_176 rfl) (u1_2 hc_X12_lookAround_176 rfl) rfl) rfl) rfl
theorem dX12_lookAround_179 : decode cX12_lookAround 179 = .ok (.aload_n 0, 1) := o_42 (u1_3 hc_X12_lookAround_176 rfl) rfl
theorem dX12_lookAround_180 : decode cX12_lookAround 180 = .ok (.iload_n 1, 1) := o_27 (u1_4 hc_X12_lookAround_176 rfl) rfl
theorem dX12_lookAround_181 : decode cX12_lookAround 181 = .ok (.aload_n 0, 1) := o_42 (u1_5 hc_X12_lookAround_176 rfl) rfl
theorem dX12_lookAround_182 : decode cX12_lookAround 182 = .ok (.getfield 335, 3) := o_180 (u1_6 hc_X12_lookAround_176 rfl) (u2_d (u1_7 hc_X12_lookAround_176 rfl) (u1_8 hc_X12_lookAround_176 rfl) rfl) rfl
theorem dX12_lookAround_185 : decode cX12_lookAround 185 = .ok (.iconst 0, 1) := o_3 (u1_9 hc_X12_lookAround_176 rfl) rfl
theorem dX12_lookAround_186 : decode cX12_lookAround 186 = .ok (.invokevirtual 344, 3) := o_182 (u1_10 hc_X12_lookAround_176 rfl) (u2_d (u1_11 hc_X12_lookAround_176 rfl) (u1_12 hc_X12_lookAround_176 rfl) rfl) rfl
theorem dX12_lookAround_189 : decode cX12_lookAround 189 = .ok (.ifCond .eq 7, 3) := o_153 (u1_13 hc_X12_lookAround_176 rfl) (s2_d (u2_d (u1_14 hc_X12_lookAround_176 rfl) (u1_15 hc_X12_lookAround_176 rfl) rfl) rfl) rfl
theorem hc_X12_lookAround_192 : ((bL cX12_lookAround).drop 192).take 18 = [4, 167, 0, 4, 3, 84, 42, 180, 0, 89, 27, 42, 180, 0, 86, 27, 51, 153] := by decide +kernel
theorem dX12_lookAround_192 : decode cX12_lookAround 192 = .ok (.iconst 1, 1) := o_4 (u1_0 hc_X12_lookAround_192 rfl) rfl
theorem dX12_lookAround_193 : decode cX12_lookAround 193 = .ok (.goto 4, 3) := o_167 (u1_1 hc_X12_lookAround_192 rfl) (s2_d (u2_d (u1_2 hc_X12_lookAround_192 rfl) (u1_3 hc_X12_lookAround_192 rfl) rfl) rfl) rfl
theorem dX12_lookAround_196 : decode cX12_lookAround 196 = .ok (.iconst 0, 1) := o_3 (u1_4 hc_X12_lookAround_192 rfl) rfl
theorem dX12_lookAround_197 : decode cX12_lookAround 197 = .ok (.bastore, 1) := o_84 (u1_5 hc_X12_lookAround_192 rfl) rfl
theorem dX12_lookAround_198 : decode cX12_lookAround 198 = .ok (.aload_n 0, 1) := o_42 (u1_6 hc_X12_lookAround_192 rfl) rfl
theorem dX12_lookAround_199 : decode cX12_lookAround 199 = .ok (.getfield 89, 3) := o_180 (u1_7 hc_X12_lookAround_192 rfl) (u2_d (u1_8 hc_X12_lookAround_192 rfl) (u1_9 hc_X12_lookAround_192 rfl) rfl) rfl
theorem dX12_lookAround_202 : decode cX12_lookAround 202 = .ok (.iload_n 1, 1) := o_27 (u1_10 hc_X12_lookAround_192 rfl) rfl
theorem dX12_lookAround_203 : decode cX12_lookAround 203 = .ok (.aload_n 0, 1) := o_42 (u1_11 hc_X12_lookAround_192 rfl) rfl
theorem dX12_lookAround_204 : decode cX12_lookAround 204 = .ok (.getfield 86, 3) := o_180 (u1_12 hc_X12_lookAround_192 rfl) (u2_d (u1_13 hc_X12_lookAround_192 rfl) (u1_14 hc_X12_lookAround_192 rfl) rfl) rfl
theorem dX12_lookAround_207 : decode cX12_lookAround 207 = .ok (.iload_n 1, 1) := o_27 (u1_15 hc_X12_lookAround_192 rfl) rfl
theorem hc_X12_lookAround_208 : ((bL cX12_lookAround).drop 208).take 18 = [51, 153, 0, 20, 42, 27, 42, 180, 1, 82, 4, 182, 1, 88, 153, 0, 7, 4] := by decide +kernel
theorem dX12_lookAround_208 : decode cX12_lookAround 208 = .ok (.baload, 1) := o_51 (u1_0 hc_X12_lookAround_208 rfl) rfl
theorem dX12_lookAround_209 : decode cX12_lookAround 209 = .ok (.ifCond .eq 20, 3) := o_153 (u1_1 hc_X12_lookAround_208 rfl) (s2_d (u2_d (u1_2 hc_X12_lookAround_208 rfl) (u1_3 hc_X12_lookAround_208 rfl) rfl) rfl) rfl
theorem dX12_lookAround_212 : decode cX12_lookAround 212 = .ok (.aload_n 0, 1) := o_42 (u1_4 hc_X12_lookAround_208 rfl) rfl
theorem dX12_lookAround_213 : decode cX12_lookAround 213 = .ok (.iload_n 1, 1) := o_27 (u1_5 hc_X12_lookAround_208 rfl) rfl
theorem dX12_lookAround_214 : decode cX12_lookAround 214 = .ok (.aload_n 0, 1) := o_42 (u1_6 hc_X12_lookAround_208 rfl) rfl
theorem dX12_lookAround_215 : decode cX12_lookAround 215 = .ok (.getfield 338, 3) := o_180 (u1_7 hc_X12_lookAround_208 rfl) (u2_d (u1_8 hc_X12_lookAround_208 rfl) (u1_9 hc_X12_lookAround_208 rfl) rfl) rfl
theorem dX12_lookAround_218 : decode cX12_lookAround 218 = .ok (.iconst 1, 1) := o_4 (u1_10 hc_X12_lookAround_208 rfl) rfl
theorem dX12_lookAround_219 : decode cX12_lookAround 219 = .ok (.invokevirtual 344, 3) := o_182 (u1_11 hc_X12_lookAround_208 rfl) (u2_d (u1_12 hc_X12_lookAround_208 rfl) (u1_13 hc_X12_lookAround_208 rfl) rfl) rfl
theorem dX12_lookAround_222 : decode cX12_lookAround 222 = .ok (.ifCond .eq 7, 3) := o_153 (u1_14 hc_X12_lookAround_208 rfl) (s2_d (u2_d (u1_15 hc_X12_lookAround_208 rfl) (u1_16 hc_X12_lookAround_208 rfl) rfl) rfl) rfl
theorem hc_X12_lookAround_224 : ((bL cX12_lookAround).drop 224).take 18 = [7, 4, 167, 0, 4, 3, 84, 132, 1, 1, 167, 255, 138, 177] := by decide +kernel
theorem dX12_lookAround_225 : decode cX12_lookAround 225 = .ok (.iconst 1, 1) := o_4 (u1_1 hc_X12_lookAround_224 rfl) rfl
theorem dX12_lookAround_226 : decode cX12_lookAround 226 = .ok (.goto 4, 3) := o_167 (u1_2 hc_X12_lookAround_224 rfl) (s2_d (u2_d (u1_3 hc_X12_lookAround_224 rfl) (u1_4 hc_X12_lookAround_224 rfl) rfl) rfl) rfl
theorem dX12_lookAround_229 : decode cX12_lookAround 229 = .ok (.iconst 0, 1) := o_3 (u1_5 hc_X12_lookAround_224 rfl) rfl
theorem dX12_lookAround_230 : decode cX12_lookAround 230 = .ok (.bastore, 1) := o_84 (u1_6 hc_X12_lookAround_224 rfl) rfl
theorem dX12_lookAround_231 : decode cX12_lookAround 231 = .ok (.iinc 1 1, 3) := o_132 (u1_7 hc_X12_lookAround_224 rfl) (u1_8 hc_X12_lookAround_224 rfl) (s1_d (u1_9 hc_X12_lookAround_224 rfl) rfl) rfl
theorem dX12_lookAround_234 : decode cX12_lookAround 234 = .ok (.goto (-118), 3) := o_167 (u1_10 hc_X12_lookAround_224 rfl) (s2_d (u2_d (u1_11 hc_X12_lookAround_224 rfl) (u1_12 hc_X12_lookAround_224 rfl) rfl) rfl) rfl
theorem dX12_lookAround_237 : decode cX12_lookAround 237 = .ok (.return_, 1) := o_177 (u1_13 hc_X12_lookAround_224 rfl) rfl
theorem hc_X12_roomOf_0 : ((bL cX12_roomOf).drop 0).take 18 = [27, 61, 42, 28, 3, 182, 0, 184, 154, 0, 27, 42, 180, 0, 50, 28, 46, 16] := by decide +kernel
theorem dX12_roomOf_0 : decode cX12_roomOf 0 = .ok (.iload_n 1, 1) := o_27 (u1_0 hc_X12_roomOf_0 rfl) rfl
theorem dX12_roomOf_1 : decode cX12_roomOf 1 = .ok (.istore_n 2, 1) := o_61 (u1_1 hc_X12_roomOf_0 rfl) rfl
theorem dX12_roomOf_2 : decode cX12_roomOf 2 = .ok (.aload_n 0, 1) := o_42 (u1_2 hc_X12_roomOf_0 rfl) rfl
theorem dX12_roomOf_3 : decode cX12_roomOf 3 = .ok (.iload_n 2, 1) := o_28 (u1_3 hc_X12_roomOf_0 rfl) rfl
theorem dX12_roomOf_4 : decode cX12_roomOf 4 = .ok (.iconst 0, 1) := o_3 (u1_4 hc_X12_roomOf_0 rfl) rfl
theorem dX12_roomOf_5 : decode cX12_roomOf 5 = .ok (.invokevirtual 184, 3) := o_182 (u1_5 hc_X12_roomOf_0 rfl) (u2_d (u1_6 hc_X12_roomOf_0 rfl) (u1_7 hc_X12_roomOf_0 rfl) rfl) rfl
theorem dX12_roomOf_8 : decode cX12_roomOf 8 = .ok (.ifCond .ne 27, 3) := o_154 (u1_8 hc_X12_roomOf_0 rfl) (s2_d (u2_d (u1_9 hc_X12_roomOf_0 rfl) (u1_10 hc_X12_roomOf_0 rfl) rfl) rfl) rfl
theorem dX12_roomOf_11 : decode cX12_roomOf 11 = .ok (.aload_n 0, 1) := o_42 (u1_11 hc_X12_roomOf_0 rfl) rfl
theorem dX12_roomOf_12 : decode cX12_roomOf 12 = .ok (.getfield 50, 3) := o_180 (u1_12 hc_X12_roomOf_0 rfl) (u2_d (u1_13 hc_X12_roomOf_0 rfl) (u1_14 hc_X12_roomOf_0 rfl) rfl) rfl
theorem dX12_roomOf_15 : decode cX12_roomOf 15 = .ok (.iload_n 2, 1) := o_28 (u1_15 hc_X12_roomOf_0 rfl) rfl
theorem hc_X12_roomOf_16 : ((bL cX12_roomOf).drop 16).take 18 = [46, 16, 247, 160, 0, 6, 16, 247, 172, 42, 180, 0, 53, 28, 46, 61, 167, 255] := by decide +kernel
theorem dX12_roomOf_16 : decode cX12_roomOf 16 = .ok (.iaload, 1) := o_46 (u1_0 hc_X12_roomOf_16 rfl) rfl
theorem dX12_roomOf_17 : decode cX12_roomOf 17 = .ok (.bipush (-9), 2) := o_16 (u1_1 hc_X12_roomOf_16 rfl) (s1_d (u1_2 hc_X12_roomOf_16 rfl) rfl) rfl
theorem dX12_roomOf_19 : decode cX12_roomOf 19 = .ok (.if_icmp .ne 6, 3) := o_160 (u1_3 hc_X12_roomOf_16 rfl) (s2_d (u2_d (u1_4 hc_X12_roomOf_16 rfl) (u1_5 hc_X12_roomOf_16 rfl) rfl) rfl) rfl
theorem dX12_roomOf_22 : decode cX12_roomOf 22 = .ok (.bipush (-9), 2) := o_16 (u1_6 hc_X12_roomOf_16 rfl) (s1_d (u1_7 hc_X12_roomOf_16 rfl) rfl) rfl
theorem dX12_roomOf_24 : decode cX12_roomOf 24 = .ok (.ireturn, 1) := o_172 (u1_8 hc_X12_roomOf_16 rfl) rfl
theorem dX12_roomOf_25 : decode cX12_roomOf 25 = .ok (.aload_n 0, 1) := o_42 (u1_9 hc_X12_roomOf_16 rfl) rfl
theorem dX12_roomOf_26 : decode cX12_roomOf 26 = .ok (.getfield 53, 3) := o_180 (u1_10 hc_X12_roomOf_16 rfl) (u2_d (u1_11 hc_X12_roomOf_16 rfl) (u1_12 hc_X12_roomOf_16 rfl) rfl) rfl
theorem dX12_roomOf_29 : decode cX12_roomOf 29 = .ok (.iload_n 2, 1) := o_28 (u1_13 hc_X12_roomOf_16 rfl) rfl
theorem dX12_roomOf_30 : decode cX12_roomOf 30 = .ok (.iaload, 1) := o_46 (u1_14 hc_X12_roomOf_16 rfl) rfl
theorem dX12_roomOf_31 : decode cX12_roomOf 31 = .ok (.istore_n 2, 1) := o_61 (u1_15 hc_X12_roomOf_16 rfl) rfl
theorem hc_X12_roomOf_32 : ((bL cX12_roomOf).drop 32).take 18 = [167, 255, 226, 28, 172] := by decide +kernel
theorem dX12_roomOf_32 : decode cX12_roomOf 32 = .ok (.goto (-30), 3) := o_167 (u1_0 hc_X12_roomOf_32 rfl) (s2_d (u2_d (u1_1 hc_X12_roomOf_32 rfl) (u1_2 hc_X12_roomOf_32 rfl) rfl) rfl) rfl
theorem dX12_roomOf_35 : decode cX12_roomOf 35 = .ok (.iload_n 2, 1) := o_28 (u1_3 hc_X12_roomOf_32 rfl) rfl
theorem dX12_roomOf_36 : decode cX12_roomOf 36 = .ok (.ireturn, 1) := o_172 (u1_4 hc_X12_roomOf_32 rfl) rfl
theorem hc_X12_begin_0 : ((bL cX12_begin).drop 0).take 18 = [42, 27, 182, 0, 180, 154, 0, 5, 2, 172, 42, 27, 8, 182, 0, 184, 154, 0] := by decide +kernel
theorem dX12_begin_0 : decode cX12_begin 0 = .ok (.aload_n 0, 1) := o_42 (u1_0 hc_X12_begin_0 rfl) rfl
theorem dX12_begin_1 : decode cX12_begin 1 = .ok (.iload_n 1, 1) := o_27 (u1_1 hc_X12_begin_0 rfl) rfl
theorem dX12_begin_2 : decode cX12_begin 2 = .ok (.invokevirtual 180, 3) := o_182 (u1_2 hc_X12_begin_0 rfl) (u2_d (u1_3 hc_X12_begin_0 rfl) (u1_4 hc_X12_begin_0 rfl) rfl) rfl
theorem dX12_begin_5 : decode cX12_begin 5 = .ok (.ifCond .ne 5, 3) := o_154 (u1_5 hc_X12_begin_0 rfl) (s2_d (u2_d (u1_6 hc_X12_begin_0 rfl) (u1_7 hc_X12_begin_0 rfl) rfl) rfl) rfl
theorem dX12_begin_8 : decode cX12_begin 8 = .ok (.iconst (-1), 1) := o_2 (u1_8 hc_X12_begin_0 rfl) rfl
theorem dX12_begin_9 : decode cX12_begin 9 = .ok (.ireturn, 1) := o_172 (u1_9 hc_X12_begin_0 rfl) rfl
theorem dX12_begin_10 : decode cX12_begin 10 = .ok (.aload_n 0, 1) := o_42 (u1_10 hc_X12_begin_0 rfl) rfl
theorem dX12_begin_11 : decode cX12_begin 11 = .ok (.iload_n 1, 1) := o_27 (u1_11 hc_X12_begin_0 rfl) rfl
theorem dX12_begin_12 : decode cX12_begin 12 = .ok (.iconst 5, 1) := o_8 (u1_12 hc_X12_begin_0 rfl) rfl
theorem dX12_begin_13 : decode cX12_begin 13 = .ok (.invokevirtual 184, 3) := o_182 (u1_13 hc_X12_begin_0 rfl) (u2_d (u1_14 hc_X12_begin_0 rfl) (u1_15 hc_X12_begin_0 rfl) rfl) rfl
theorem hc_X12_begin_16 : ((bL cX12_begin).drop 16).take 18 = [154, 0, 9, 42, 6, 182, 0, 233, 172, 27, 61, 28, 16, 247, 159, 0, 41, 42] := by decide +kernel
theorem dX12_begin_16 : decode cX12_begin 16 = .ok (.ifCond .ne 9, 3) := o_154 (u1_0 hc_X12_begin_16 rfl) (s2_d (u2_d (u1_1 hc_X12_begin_16 rfl) (u1_2 hc_X12_begin_16 rfl) rfl) rfl) rfl
theorem dX12_begin_19 : decode cX12_begin 19 = .ok (.aload_n 0, 1) := o_42 (u1_3 hc_X12_begin_16 rfl) rfl
theorem dX12_begin_20 : decode cX12_begin 20 = .ok (.iconst 3, 1) := o_6 (u1_4 hc_X12_begin_16 rfl) rfl
theorem dX12_begin_21 : decode cX12_begin 21 = .ok (.invokevirtual 233, 3) := o_182 (u1_5 hc_X12_begin_16 rfl) (u2_d (u1_6 hc_X12_begin_16 rfl) (u1_7 hc_X12_begin_16 rfl) rfl) rfl
theorem dX12_begin_24 : decode cX12_begin 24 = .ok (.ireturn, 1) := o_172 (u1_8 hc_X12_begin_16 rfl) rfl
theorem dX12_begin_25 : decode cX12_begin 25 = .ok (.iload_n 1, 1) := o_27 (u1_9 hc_X12_begin_16 rfl) rfl
theorem dX12_begin_26 : decode cX12_begin 26 = .ok (.istore_n 2, 1) := o_61 (u1_10 hc_X12_begin_16 rfl) rfl
theorem dX12_begin_27 : decode cX12_begin 27 = .ok (.iload_n 2, 1) := o_28 (u1_11 hc_X12_begin_16 rfl) rfl
theorem dX12_begin_28 : decode cX12_begin 28 = .ok (.bipush (-9), 2) := o_16 (u1_12 hc_X12_begin_16 rfl) (s1_d (u1_13 hc_X12_begin_16 rfl) rfl) rfl
theorem dX12_begin_30 : decode cX12_begin 30 = .ok (.if_icmp .eq 41, 3) := o_159 (u1_14 hc_X12_begin_16 rfl) (s2_d (u2_d (u1_15 hc_X12_begin_16 rfl) (u1_16 hc_X12_begin_16 rfl) rfl) rfl) rfl
theorem hc_X12_begin_32 : ((bL cX12_begin).drop 32).take 18 = [41, 42, 28, 3, 182, 0, 184, 154, 0, 32, 42, 28, 182, 0, 208, 16, 247, 160] := by decide +kernel
theorem dX12_begin_33 : decode cX12_begin 33 = .ok (.aload_n 0, 1) := o_42 (u1_1 hc_X12_begin_32 rfl) rfl
theorem dX12_begin_34 : decode cX12_begin 34 = .ok (.iload_n 2, 1) := o_28 (u1_2 hc_X12_begin_32 rfl) rfl
theorem dX12_begin_35 : decode cX12_begin 35 = .ok (.iconst 0, 1) := o_3 (u1_3 hc_X12_begin_32 rfl) rfl
theorem dX12_begin_36 : decode cX12_begin 36 = .ok (.invokevirtual 184, 3) := o_182 (u1_4 hc_X12_begin_32 rfl) (u2_d (u1_5 hc_X12_begin_32 rfl) (u1_6 hc_X12_begin_32 rfl) rfl) rfl
theorem dX12_begin_39 : decode cX12_begin 39 = .ok (.ifCond .ne 32, 3) := o_154 (u1_7 hc_X12_begin_32 rfl) (s2_d (u2_d (u1_8 hc_X12_begin_32 rfl) (u1_9 hc_X12_begin_32 rfl) rfl) rfl) rfl
theorem dX12_begin_42 : decode cX12_begin 42 = .ok (.aload_n 0, 1) := o_42 (u1_10 hc_X12_begin_32 rfl) rfl
theorem dX12_begin_43 : decode cX12_begin 43 = .ok (.iload_n 2, 1) := o_28 (u1_11 hc_X12_begin_32 rfl) rfl
theorem dX12_begin_44 : decode cX12_begin 44 = .ok (.invokevirtual 208, 3) := o_182 (u1_12 hc_X12_begin_32 rfl) (u2_d (u1_13 hc_X12_begin_32 rfl) (u1_14 hc_X12_begin_32 rfl) rfl) rfl
theorem dX12_begin_47 : decode cX12_begin 47 = .ok (.bipush (-9), 2) := o_16 (u1_15 hc_X12_begin_32 rfl) (s1_d (u1_16 hc_X12_begin_32 rfl) rfl) rfl
theorem hc_X12_begin_48 : ((bL cX12_begin).drop 48).take 18 = [247, 160, 0, 8, 16, 247, 167, 0, 13, 42, 180, 0, 31, 42, 28, 182, 0, 208] := by decide +kernel
theorem dX12_begin_49 : decode cX12_begin 49 = .ok (.if_icmp .ne 8, 3) := o_160 (u1_1 hc_X12_begin_48 rfl) (s2_d (u2_d (u1_2 hc_X12_begin_48 rfl) (u1_3 hc_X12_begin_48 rfl) rfl) rfl) rfl
theorem dX12_begin_52 : decode cX12_begin 52 = .ok (.bipush (-9), 2) := o_16 (u1_4 hc_X12_begin_48 rfl) (s1_d (u1_5 hc_X12_begin_48 rfl) rfl) rfl
theorem dX12_begin_54 : decode cX12_begin 54 = .ok (.goto 13, 3) := o_167 (u1_6 hc_X12_begin_48 rfl) (s2_d (u2_d (u1_7 hc_X12_begin_48 rfl) (u1_8 hc_X12_begin_48 rfl) rfl) rfl) rfl
theorem dX12_begin_57 : decode cX12_begin 57 = .ok (.aload_n 0, 1) := o_42 (u1_9 hc_X12_begin_48 rfl) rfl
theorem dX12_begin_58 : decode cX12_begin 58 = .ok (.getfield 31, 3) := o_180 (u1_10 hc_X12_begin_48 rfl) (u2_d (u1_11 hc_X12_begin_48 rfl) (u1_12 hc_X12_begin_48 rfl) rfl) rfl
theorem dX12_begin_61 : decode cX12_begin 61 = .ok (.aload_n 0, 1) := o_42 (u1_13 hc_X12_begin_48 rfl) rfl
theorem dX12_begin_62 : decode cX12_begin 62 = .ok (.iload_n 2, 1) := o_28 (u1_14 hc_X12_begin_48 rfl) rfl
theorem dX12_begin_63 : decode cX12_begin 63 = .ok (.invokevirtual 208, 3) := o_182 (u1_15 hc_X12_begin_48 rfl) (u2_d (u1_16 hc_X12_begin_48 rfl) (u1_17 hc_X12_begin_48 rfl) rfl) rfl
theorem hc_X12_begin_64 : ((bL cX12_begin).drop 64).take 18 = [0, 208, 46, 61, 167, 255, 215, 28, 16, 247, 160, 0, 9, 42, 4, 182, 0, 233] := by decide +kernel
theorem dX12_begin_66 : decode cX12_begin 66 = .ok (.iaload, 1) := o_46 (u1_2 hc_X12_begin_64 rfl) rfl
theorem dX12_begin_67 : decode cX12_begin 67 = .ok (.istore_n 2, 1) := o_61 (u1_3 hc_X12_begin_64 rfl) rfl
theorem dX12_begin_68 : decode cX12_begin 68 = .ok (.goto (-41), 3) := o_167 (u1_4 hc_X12_begin_64 rfl) (s2_d (u2_d (u1_5 hc_X12_begin_64 rfl) (u1_6 hc_X12_begin_64 rfl) rfl) rfl) rfl
theorem dX12_begin_71 : decode cX12_begin 71 = .ok (.iload_n 2, 1) := o_28 (u1_7 hc_X12_begin_64 rfl) rfl
theorem dX12_begin_72 : decode cX12_begin 72 = .ok (.bipush (-9), 2) := o_16 (u1_8 hc_X12_begin_64 rfl) (s1_d (u1_9 hc_X12_begin_64 rfl) rfl) rfl
theorem dX12_begin_74 : decode cX12_begin 74 = .ok (.if_icmp .ne 9, 3) := o_160 (u1_10 hc_X12_begin_64 rfl) (s2_d (u2_d (u1_11 hc_X12_begin_64 rfl) (u1_12 hc_X12_begin_64 rfl) rfl) rfl) rfl
theorem dX12_begin_77 : decode cX12_begin 77 = .ok (.aload_n 0, 1) := o_42 (u1_13 hc_X12_begin_64 rfl) rfl
theorem dX12_begin_78 : decode cX12_begin 78 = .ok (.iconst 1, 1) := o_4 (u1_14 hc_X12_begin_64 rfl) rfl
theorem dX12_begin_79 : decode cX12_begin 79 = .ok (.invokevirtual 233, 3) := o_182 (u1_15 hc_X12_begin_64 rfl) (u2_d (u1_16 hc_X12_begin_64 rfl) (u1_17 hc_X12_begin_64 rfl) rfl) rfl
theorem hc_X12_begin_80 : ((bL cX12_begin).drop 80).take 18 = [0, 233, 172, 3, 62, 29, 42, 180, 0, 177, 162, 0, 124, 42, 29, 182, 0, 208] := by decide +kernel
theorem dX12_begin_82 : decode cX12_begin 82 = .ok (.ireturn, 1) := o_172 (u1_2 hc_X12_begin_80 rfl) rfl
theorem dX12_begin_83 : decode cX12_begin 83 = .ok (.iconst 0, 1) := o_3 (u1_3 hc_X12_begin_80 rfl) rfl
theorem dX12_begin_84 : decode cX12_begin 84 = .ok (.istore_n 3, 1) := o_62 (u1_4 hc_X12_begin_80 rfl) rfl
theorem dX12_begin_85 : decode cX12_begin 85 = .ok (.iload_n 3, 1) := o_29 (u1_5 hc_X12_begin_80 rfl) rfl
theorem dX12_begin_86 : decode cX12_begin 86 = .ok (.aload_n 0, 1) := o_42 (u1_6 hc_X12_begin_80 rfl) rfl
theorem dX12_begin_87 : decode cX12_begin 87 = .ok (.getfield 177, 3) := o_180 (u1_7 hc_X12_begin_80 rfl) (u2_d (u1_8 hc_X12_begin_80 rfl) (u1_9 hc_X12_begin_80 rfl) rfl) rfl
theorem dX12_begin_90 : decode cX12_begin 90 = .ok (.if_icmp .ge 124, 3) := o_162 (u1_10 hc_X12_begin_80 rfl) (s2_d (u2_d (u1_11 hc_X12_begin_80 rfl) (u1_12 hc_X12_begin_80 rfl) rfl) rfl) rfl
theorem dX12_begin_93 : decode cX12_begin 93 = .ok (.aload_n 0, 1) := o_42 (u1_13 hc_X12_begin_80 rfl) rfl
theorem dX12_begin_94 : decode cX12_begin 94 = .ok (.iload_n 3, 1) := o_29 (u1_14 hc_X12_begin_80 rfl) rfl
theorem dX12_begin_95 : decode cX12_begin 95 = .ok (.invokevirtual 208, 3) := o_182 (u1_15 hc_X12_begin_80 rfl) (u2_d (u1_16 hc_X12_begin_80 rfl) (u1_17 hc_X12_begin_80 rfl) rfl) rfl
theorem hc_X12_begin_96 : ((bL cX12_begin).drop 96).take 18 = [0, 208, 54, 4, 42, 180, 0, 50, 29, 21, 4, 16, 247, 160, 0, 8, 16, 247] := by decide +kernel
theorem dX12_begin_98 : decode cX12_begin 98 = .ok (.istore 4, 2) := o_54 (u1_2 hc_X12_begin_96 rfl) (u1_3 hc_X12_begin_96 rfl) rfl
theorem dX12_begin_100 : decode cX12_begin 100 = .ok (.aload_n 0, 1) := o_42 (u1_4 hc_X12_begin_96 rfl) rfl
theorem dX12_begin_101 : decode cX12_begin 101 = .ok (.getfield 50, 3) := o_180 (u1_5 hc_X12_begin_96 rfl) (u2_d (u1_6 hc_X12_begin_96 rfl) (u1_7 hc_X12_begin_96 rfl) rfl) rfl
theorem dX12_begin_104 : decode cX12_begin 104 = .ok (.iload_n 3, 1) := o_29 (u1_8 hc_X12_begin_96 rfl) rfl
theorem dX12_begin_105 : decode cX12_begin 105 = .ok (.iload 4, 2) := o_21 (u1_9 hc_X12_begin_96 rfl) (u1_10 hc_X12_begin_96 rfl) rfl
theorem dX12_begin_107 : decode cX12_begin 107 = .ok (.bipush (-9), 2) := o_16 (u1_11 hc_X12_begin_96 rfl) (s1_d (u1_12 hc_X12_begin_96 rfl) rfl) rfl
theorem dX12_begin_109 : decode cX12_begin 109 = .ok (.if_icmp .ne 8, 3) := o_160 (u1_13 hc_X12_begin_96 rfl) (s2_d (u2_d (u1_14 hc_X12_begin_96 rfl) (u1_15 hc_X12_begin_96 rfl) rfl) rfl) rfl
theorem hc_X12_begin_112 : ((bL cX12_begin).drop 112).take 18 = [16, 247, 167, 0, 10, 42, 180, 0, 25, 21, 4, 46, 79, 42, 180, 0, 53, 29] := by decide +kernel
theorem dX12_begin_112 : decode cX12_begin 112 = .ok (.bipush (-9), 2) := o_16 (u1_0 hc_X12_begin_112 rfl) (s1_d (u1_1 hc_X12_begin_112 rfl) rfl) rfl
theorem dX12_begin_114 : decode cX12_begin 114 = .ok (.goto 10, 3) := o_167 (u1_2 hc_X12_begin_112 rfl) (s2_d (u2_d (u1_3 hc_X12_begin_112 rfl) (u1_4 hc_X12_begin_112 rfl) rfl) rfl) rfl
theorem dX12_begin_117 : decode cX12_begin 117 = .ok (.aload_n 0, 1) := o_42 (u1_5 hc_X12_begin_112 rfl) rfl
theorem dX12_begin_118 : decode cX12_begin 118 = .ok (.getfield 25, 3) := o_180 (u1_6 hc_X12_begin_112 rfl) (u2_d (u1_7 hc_X12_begin_112 rfl) (u1_8 hc_X12_begin_112 rfl) rfl) rfl
theorem dX12_begin_121 : decode cX12_begin 121 = .ok (.iload 4, 2) := o_21 (u1_9 hc_X12_begin_112 rfl) (u1_10 hc_X12_begin_112 rfl) rfl
theorem dX12_begin_123 : decode cX12_begin 123 = .ok (.iaload, 1) := o_46 (u1_11 hc_X12_begin_112 rfl) rfl
theorem dX12_begin_124 : decode cX12_begin 124 = .ok (.iastore, 1) := o_79 (u1_12 hc_X12_begin_112 rfl) rfl
theorem dX12_begin_125 : decode cX12_begin 125 = .ok (.aload_n 0, 1) := o_42 (u1_13 hc_X12_begin_112 rfl) rfl
theorem dX12_begin_126 : decode cX12_begin 126 = .ok (.getfield 53, 3) := o_180 (u1_14 hc_X12_begin_112 rfl) (u2_d (u1_15 hc_X12_begin_112 rfl) (u1_16 hc_X12_begin_112 rfl) rfl) rfl
theorem hc_X12_begin_128 : ((bL cX12_begin).drop 128).take 18 = [53, 29, 21, 4, 16, 247, 160, 0, 8, 16, 247, 167, 0, 10, 42, 180, 0, 31] := by decide +kernel
theorem dX12_begin_129 : decode cX12_begin 129 = .ok (.iload_n 3, 1) := o_29 (u1_1 hc_X12_begin_128 rfl) rfl
theorem dX12_begin_130 : decode cX12_begin 130 = .ok (.iload 4, 2) := o_21 (u1_2 hc_X12_begin_128 rfl) (u1_3 hc_X12_begin_128 rfl) rfl
theorem dX12_begin_132 : decode cX12_begin 132 = .ok (.bipush (-9), 2) := o_16 (u1_4 hc_X12_begin_128 rfl) (s1_d (u1_5 hc_X12_begin_128 rfl) rfl) rfl
theorem dX12_begin_134 : decode cX12_begin 134 = .ok (.if_icmp .ne 8, 3) := o_160 (u1_6 hc_X12_begin_128 rfl) (s2_d (u2_d (u1_7 hc_X12_begin_128 rfl) (u1_8 hc_X12_begin_128 rfl) rfl) rfl) rfl
theorem dX12_begin_137 : decode cX12_begin 137 = .ok (.bipush (-9), 2) := o_16 (u1_9 hc_X12_begin_128 rfl) (s1_d (u1_10 hc_X12_begin_128 rfl) rfl) rfl
theorem dX12_begin_139 : decode cX12_begin 139 = .ok (.goto 10, 3) := o_167 (u1_11 hc_X12_begin_128 rfl) (s2_d (u2_d (u1_12 hc_X12_begin_128 rfl) (u1_13 hc_X12_begin_128 rfl) rfl) rfl) rfl
theorem dX12_begin_142 : decode cX12_begin 142 = .ok (.aload_n 0, 1) := o_42 (u1_14 hc_X12_begin_128 rfl) rfl
theorem dX12_begin_143 : decode cX12_begin 143 = .ok (.getfield 31, 3) := o_180 (u1_15 hc_X12_begin_128 rfl) (u2_d (u1_16 hc_X12_begin_128 rfl) (u1_17 hc_X12_begin_128 rfl) rfl) rfl
theorem hc_X12_begin_144 : ((bL cX12_begin).drop 144).take 18 = [0, 31, 21, 4, 46, 79, 42, 180, 0, 56, 29, 42, 29, 182, 0, 191, 153, 0] := by decide +kernel
theorem dX12_begin_146 : decode cX12_begin 146 = .ok (.iload 4, 2) := o_21 (u1_2 hc_X12_begin_144 rfl) (u1_3 hc_X12_begin_144 rfl) rfl
theorem dX12_begin_148 : decode cX12_begin 148 = .ok (.iaload, 1) := o_46 (u1_4 hc_X12_begin_144 rfl) rfl
theorem dX12_begin_149 : decode cX12_begin 149 = .ok (.iastore, 1) := o_79 (u1_5 hc_X12_begin_144 rfl) rfl
theorem dX12_begin_150 : decode cX12_begin 150 = .ok (.aload_n 0, 1) := o_42 (u1_6 hc_X12_begin_144 rfl) rfl
theorem dX12_begin_151 : decode cX12_begin 151 = .ok (.getfield 56, 3) := o_180 (u1_7 hc_X12_begin_144 rfl) (u2_d (u1_8 hc_X12_begin_144 rfl) (u1_9 hc_X12_begin_144 rfl) rfl) rfl
theorem dX12_begin_154 : decode cX12_begin 154 = .ok (.iload_n 3, 1) := o_29 (u1_10 hc_X12_begin_144 rfl) rfl
theorem dX12_begin_155 : decode cX12_begin 155 = .ok (.aload_n 0, 1) := o_42 (u1_11 hc_X12_begin_144 rfl) rfl
theorem dX12_begin_156 : decode cX12_begin 156 = .ok (.iload_n 3, 1) := o_29 (u1_12 hc_X12_begin_144 rfl) rfl
theorem dX12_begin_157 : decode cX12_begin 157 = .ok (.invokevirtual 191, 3) := o_182 (u1_13 hc_X12_begin_144 rfl) (u2_d (u1_14 hc_X12_begin_144 rfl) (u1_15 hc_X12_begin_144 rfl) rfl) rfl
theorem hc_X12_begin_160 : ((bL cX12_begin).drop 160).take 18 = [153, 0, 17, 42, 29, 3, 182, 1, 0, 4, 160, 0, 7, 4, 167, 0, 4, 3] := by decide +kernel
theorem dX12_begin_160 : decode cX12_begin 160 = .ok (.ifCond .eq 17, 3) := o_153 (u1_0 hc_X12_begin_160 rfl) (s2_d (u2_d (u1_1 hc_X12_begin_160 rfl) (u1_2 hc_X12_begin_160 rfl) rfl) rfl) rfl
theorem dX12_begin_163 : decode cX12_begin 163 = .ok (.aload_n 0, 1) := o_42 (u1_3 hc_X12_begin_160 rfl) rfl
theorem dX12_begin_164 : decode cX12_begin 164 = .ok (.iload_n 3, 1) := o_29 (u1_4 hc_X12_begin_160 rfl) rfl
theorem dX12_begin_165 : decode cX12_begin 165 = .ok (.iconst 0, 1) := o_3 (u1_5 hc_X12_begin_160 rfl) rfl
theorem dX12_begin_166 : decode cX12_begin 166 = .ok (.invokevirtual 256, 3) := o_182 (u1_6 hc_X12_begin_160 rfl) (u2_d (u1_7 hc_X12_begin_160 rfl) (u1_8 hc_X12_begin_160 rfl) rfl) rfl
theorem dX12_begin_169 : decode cX12_begin 169 = .ok (.iconst 1, 1) := o_4 (u1_9 hc_X12_begin_160 rfl) rfl
theorem dX12_begin_170 : decode cX12_begin 170 = .ok (.if_icmp .ne 7, 3) := o_160 (u1_10 hc_X12_begin_160 rfl) (s2_d (u2_d (u1_11 hc_X12_begin_160 rfl) (u1_12 hc_X12_begin_160 rfl) rfl) rfl) rfl
theorem dX12_begin_173 : decode cX12_begin 173 = .ok (.iconst 1, 1) := o_4 (u1_13 hc_X12_begin_160 rfl) rfl
theorem dX12_begin_174 : decode cX12_begin 174 = .ok (.goto 4, 3) := o_167 (u1_14 hc_X12_begin_160 rfl) (s2_d (u2_d (u1_15 hc_X12_begin_160 rfl) (u1_16 hc_X12_begin_160 rfl) rfl) rfl) rfl
theorem hc_X12_begin_176 : ((bL cX12_begin).drop 176).take 18 = [4, 3, 84, 42, 180, 0, 59, 29, 42, 29, 182, 0, 191, 153, 0, 17, 42, 29] := by decide +kernel
theorem dX12_begin_177 : decode cX12_begin 177 = .ok (.iconst 0, 1) := o_3 (u1_1 hc_X12_begin_176 rfl) rfl
theorem dX12_begin_178 : decode cX12_begin 178 = .ok (.bastore, 1) := o_84 (u1_2 hc_X12_begin_176 rfl) rfl
theorem dX12_begin_179 : decode cX12_begin 179 = .ok (.aload_n 0, 1) := o_42 (u1_3 hc_X12_begin_176 rfl) rfl
theorem dX12_begin_180 : decode cX12_begin 180 = .ok (.getfield 59, 3) := o_180 (u1_4 hc_X12_begin_176 rfl) (u2_d (u1_5 hc_X12_begin_176 rfl) (u1_6 hc_X12_begin_176 rfl) rfl) rfl
theorem dX12_begin_183 : decode cX12_begin 183 = .ok (.iload_n 3, 1) := o_29 (u1_7 hc_X12_begin_176 rfl) rfl
theorem dX12_begin_184 : decode cX12_begin 184 = .ok (.aload_n 0, 1) := o_42 (u1_8 hc_X12_begin_176 rfl) rfl
theorem dX12_begin_185 : decode cX12_begin 185 = .ok (.iload_n 3, 1) := o_29 (u1_9 hc_X12_begin_176 rfl) rfl
theorem dX12_begin_186 : decode cX12_begin 186 = .ok (.invokevirtual 191, 3) := o_182 (u1_10 hc_X12_begin_176 rfl) (u2_d (u1_11 hc_X12_begin_176 rfl) (u1_12 hc_X12_begin_176 rfl) rfl) rfl
theorem dX12_begin_189 : decode cX12_begin 189 = .ok (.ifCond .eq 17, 3) := o_153 (u1_13 hc_X12_begin_176 rfl) (s2_d (u2_d (u1_14 hc_X12_begin_176 rfl) (u1_15 hc_X12_begin_176 rfl) rfl) rfl) rfl
theorem hc_X12_begin_192 : ((bL cX12_begin).drop 192).take 18 = [42, 29, 4, 182, 1, 0, 4, 160, 0, 7, 4, 167, 0, 4, 3, 84, 132, 3] := by decide +kernel
theorem dX12_begin_192 : decode cX12_begin 192 = .ok (.aload_n 0, 1) := o_42 (u1_0 hc_X12_begin_192 rfl) rfl
theorem dX12_begin_193 : decode cX12_begin 193 = .ok (.iload_n 3, 1) := o_29 (u1_1 hc_X12_begin_192 rfl) rfl
theorem dX12_begin_194 : decode cX12_begin 194 = .ok (.iconst 1, 1) := o_4 (u1_2 hc_X12_begin_192 rfl) rfl
theorem dX12_begin_195 : decode cX12_begin 195 = .ok (.invokevirtual 256, 3) := o_182 (u1_3 hc_X12_begin_192 rfl) (u2_d (u1_4 hc_X12_begin_192 rfl) (u1_5 hc_X12_begin_192 rfl) rfl) rfl
theorem dX12_begin_198 : decode cX12_begin 198 = .ok (.iconst 1, 1) := o_4 (u1_6 hc_X12_begin_192 rfl) rfl
theorem dX12_begin_199 : decode cX12_begin 199 = .ok (.if_icmp .ne 7, 3) := o_160 (u1_7 hc_X12_begin_192 rfl) (s2_d (u2_d (u1_8 hc_X12_begin_192 rfl) (u1_9 hc_X12_begin_192 rfl) rfl) rfl) rfl
theorem dX12_begin_202 : decode cX12_begin 202 = .ok (.iconst 1, 1) := o_4 (u1_10 hc_X12_begin_192 rfl) rfl
theorem dX12_begin_203 : decode cX12_begin 203 = .ok (.goto 4, 3) := o_167 (u1_11 hc_X12_begin_192 rfl) (s2_d (u2_d (u1_12 hc_X12_begin_192 rfl) (u1_13 hc_X12_begin_192 rfl) rfl) rfl) rfl
theorem dX12_begin_206 : decode cX12_begin 206 = .ok (.iconst 0, 1) := o_3 (u1_14 hc_X12_begin_192 rfl) rfl
theorem dX12_begin_207 : decode cX12_begin 207 = .ok (.bastore, 1) := o_84 (u1_15 hc_X12_begin_192 rfl) rfl
theorem hc_X12_begin_208 : ((bL cX12_begin).drop 208).take 18 = [132, 3, 1, 167, 255, 130, 42, 27, 181, 0, 155, 42, 3, 181, 1, 35, 28, 172] := by decide +kernel
theorem dX12_begin_208 : decode cX12_begin 208 = .ok (.iinc 3 1, 3) := o_132 (u1_0 hc_X12_begin_208 rfl) (u1_1 hc_X12_begin_208 rfl) (s1_d (u1_2 hc_X12_begin_208 rfl) rfl) rfl
theorem dX12_begin_211 : decode cX12_begin 211 = .ok (.goto (-126), 3) := o_167 (u1_3 hc_X12_begin_208 rfl) (s2_d (u2_d (u1_4 hc_X12_begin_208 rfl) (u1_5 hc_X12_begin_208 rfl) rfl) rfl) rfl
theorem dX12_begin_214 : decode cX12_begin 214 = .ok (.aload_n 0, 1) := o_42 (u1_6 hc_X12_begin_208 rfl) rfl
theorem dX12_begin_215 : decode cX12_begin 215 = .ok (.iload_n 1, 1) := o_27 (u1_7 hc_X12_begin_208 rfl) rfl
theorem dX12_begin_216 : decode cX12_begin 216 = .ok (.putfield 155, 3) := o_181 (u1_8 hc_X12_begin_208 rfl) (u2_d (u1_9 hc_X12_begin_208 rfl) (u1_10 hc_X12_begin_208 rfl) rfl) rfl
theorem dX12_begin_219 : decode cX12_begin 219 = .ok (.aload_n 0, 1) := o_42 (u1_11 hc_X12_begin_208 rfl) rfl
theorem dX12_begin_220 : decode cX12_begin 220 = .ok (.iconst 0, 1) := o_3 (u1_12 hc_X12_begin_208 rfl) rfl
theorem dX12_begin_221 : decode cX12_begin 221 = .ok (.putfield 291, 3) := o_181 (u1_13 hc_X12_begin_208 rfl) (u2_d (u1_14 hc_X12_begin_208 rfl) (u1_15 hc_X12_begin_208 rfl) rfl) rfl
theorem hc_X12_begin_224 : ((bL cX12_begin).drop 224).take 18 = [28, 172] := by decide +kernel
theorem dX12_begin_224 : decode cX12_begin 224 = .ok (.iload_n 2, 1) := o_28 (u1_0 hc_X12_begin_224 rfl) rfl
theorem dX12_begin_225 : decode cX12_begin 225 = .ok (.ireturn, 1) := o_172 (u1_1 hc_X12_begin_224 rfl) rfl
theorem hc_X12_isUpFrom_0 : ((bL cX12_isUpFrom).drop 0).take 18 = [28, 62, 42, 180, 0, 50, 29, 46, 16, 247, 159, 0, 17, 42, 180, 0, 53, 29] := by decide +kernel
theorem dX12_isUpFrom_0 : decode cX12_isUpFrom 0 = .ok (.iload_n 2, 1) := o_28 (u1_0 hc_X12_isUpFrom_0 rfl) rfl
theorem dX12_isUpFrom_1 : decode cX12_isUpFrom 1 = .ok (.istore_n 3, 1) := o_62 (u1_1 hc_X12_isUpFrom_0 rfl) rfl
theorem dX12_isUpFrom_2 : decode cX12_isUpFrom 2 = .ok (.aload_n 0, 1) := o_42 (u1_2 hc_X12_isUpFrom_0 rfl) rfl
theorem dX12_isUpFrom_3 : decode cX12_isUpFrom 3 = .ok (.getfield 50, 3) := o_180 (u1_3 hc_X12_isUpFrom_0 rfl) (u2_d (u1_4 hc_X12_isUpFrom_0 rfl) (u1_5 hc_X12_isUpFrom_0 rfl) rfl) rfl
theorem dX12_isUpFrom_6 : decode cX12_isUpFrom 6 = .ok (.iload_n 3, 1) := o_29 (u1_6 hc_X12_isUpFrom_0 rfl) rfl
theorem dX12_isUpFrom_7 : decode cX12_isUpFrom 7 = .ok (.iaload, 1) := o_46 (u1_7 hc_X12_isUpFrom_0 rfl) rfl
theorem dX12_isUpFrom_8 : decode cX12_isUpFrom 8 = .ok (.bipush (-9), 2) := o_16 (u1_8 hc_X12_isUpFrom_0 rfl) (s1_d (u1_9 hc_X12_isUpFrom_0 rfl) rfl) rfl
theorem dX12_isUpFrom_10 : decode cX12_isUpFrom 10 = .ok (.if_icmp .eq 17, 3) := o_159 (u1_10 hc_X12_isUpFrom_0 rfl) (s2_d (u2_d (u1_11 hc_X12_isUpFrom_0 rfl) (u1_12 hc_X12_isUpFrom_0 rfl) rfl) rfl) rfl
theorem dX12_isUpFrom_13 : decode cX12_isUpFrom 13 = .ok (.aload_n 0, 1) := o_42 (u1_13 hc_X12_isUpFrom_0 rfl) rfl
theorem dX12_isUpFrom_14 : decode cX12_isUpFrom 14 = .ok (.getfield 53, 3) := o_180 (u1_14 hc_X12_isUpFrom_0 rfl) (u2_d (u1_15 hc_X12_isUpFrom_0 rfl) (u1_16 hc_X12_isUpFrom_0 rfl) rfl) rfl
theorem hc_X12_isUpFrom_16 : ((bL cX12_isUpFrom).drop 16).take 18 = [53, 29, 46, 62, 29, 27, 160, 255, 236, 4, 172, 3, 172] := by decide +kernel
theorem dX12_isUpFrom_17 : decode cX12_isUpFrom 17 = .ok (.iload_n 3, 1) := o_29 (u1_1 hc_X12_isUpFrom_16 rfl) rfl
theorem dX12_isUpFrom_18 : decode cX12_isUpFrom 18 = .ok (.iaload, 1) := o_46 (u1_2 hc_X12_isUpFrom_16 rfl) rfl
theorem dX12_isUpFrom_19 : decode cX12_isUpFrom 19 = .ok (.istore_n 3, 1) := o_62 (u1_3 hc_X12_isUpFrom_16 rfl) rfl
theorem dX12_isUpFrom_20 : decode cX12_isUpFrom 20 = .ok (.iload_n 3, 1) := o_29 (u1_4 hc_X12_isUpFrom_16 rfl) rfl
theorem dX12_isUpFrom_21 : decode cX12_isUpFrom 21 = .ok (.iload_n 1, 1) := o_27 (u1_5 hc_X12_isUpFrom_16 rfl) rfl
theorem dX12_isUpFrom_22 : decode cX12_isUpFrom 22 = .ok (.if_icmp .ne (-20), 3) := o_160 (u1_6 hc_X12_isUpFrom_16 rfl) (s2_d (u2_d (u1_7 hc_X12_isUpFrom_16 rfl) (u1_8 hc_X12_isUpFrom_16 rfl) rfl) rfl) rfl
theorem dX12_isUpFrom_25 : decode cX12_isUpFrom 25 = .ok (.iconst 1, 1) := o_4 (u1_9 hc_X12_isUpFrom_16 rfl) rfl
theorem dX12_isUpFrom_26 : decode cX12_isUpFrom 26 = .ok (.ireturn, 1) := o_172 (u1_10 hc_X12_isUpFrom_16 rfl) rfl
theorem dX12_isUpFrom_27 : decode cX12_isUpFrom 27 = .ok (.iconst 0, 1) := o_3 (u1_11 hc_X12_isUpFrom_16 rfl) rfl
theorem dX12_isUpFrom_28 : decode cX12_isUpFrom 28 = .ok (.ireturn, 1) := o_172 (u1_12 hc_X12_isUpFrom_16 rfl) rfl
theorem hc_X12_holds_0 : ((bL cX12_holds).drop 0).take 18 = [42, 180, 0, 50, 27, 46, 5, 160, 0, 20, 42, 180, 0, 53, 27, 46, 42, 180] := by decide +kernel
theorem dX12_holds_0 : decode cX12_holds 0 = .ok (.aload_n 0, 1) := o_42 (u1_0 hc_X12_holds_0 rfl) rfl
theorem dX12_holds_1 : decode cX12_holds 1 = .ok (.getfield 50, 3) := o_180 (u1_1 hc_X12_holds_0 rfl) (u2_d (u1_2 hc_X12_holds_0 rfl) (u1_3 hc_X12_holds_0 rfl) rfl) rfl
