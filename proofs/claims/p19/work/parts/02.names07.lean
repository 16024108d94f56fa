theorem dX12_isFlagBarred_41 : decode cX12_isFlagBarred 41 = .ok (.iconst 1, 1) := o_4 (u1_9 hc_X12_isFlagBarred_32 rfl) rfl
theorem dX12_isFlagBarred_42 : decode cX12_isFlagBarred 42 = .ok (.invokevirtual 216, 3) := o_182 (u1_10 hc_X12_isFlagBarred_32 rfl) (u2_d (u1_11 hc_X12_isFlagBarred_32 rfl) (u1_12 hc_X12_isFlagBarred_32 rfl) rfl) rfl
theorem dX12_isFlagBarred_45 : decode cX12_isFlagBarred 45 = .ok (.istore 4, 2) := o_54 (u1_13 hc_X12_isFlagBarred_32 rfl) (u1_14 hc_X12_isFlagBarred_32 rfl) rfl
theorem dX12_isFlagBarred_47 : decode cX12_isFlagBarred 47 = .ok (.iload 4, 2) := o_21 (u1_15 hc_X12_isFlagBarred_32 rfl) (u1_16 hc_X12_isFlagBarred_32 rfl) rfl
theorem hc_X12_isFlagBarred_48 : ((bL cX12_isFlagBarred).drop 48).take 18 = [4, 16, 247, 160, 0, 43, 28, 7, 160, 0, 38, 29, 154, 0, 34, 42, 27, 182] := by decide +kernel
theorem dX12_isFlagBarred_49 : decode cX12_isFlagBarred 49 = .ok (.bipush (-9), 2) := o_16 (u1_1 hc_X12_isFlagBarred_48 rfl) (s1_d (u1_2 hc_X12_isFlagBarred_48 rfl) rfl) rfl
theorem dX12_isFlagBarred_51 : decode cX12_isFlagBarred 51 = .ok (.if_icmp .ne 43, 3) := o_160 (u1_3 hc_X12_isFlagBarred_48 rfl) (s2_d (u2_d (u1_4 hc_X12_isFlagBarred_48 rfl) (u1_5 hc_X12_isFlagBarred_48 rfl) rfl) rfl) rfl
theorem dX12_isFlagBarred_54 : decode cX12_isFlagBarred 54 = .ok (.iload_n 2, 1) := o_28 (u1_6 hc_X12_isFlagBarred_48 rfl) rfl
theorem dX12_isFlagBarred_55 : decode cX12_isFlagBarred 55 = .ok (.iconst 4, 1) := o_7 (u1_7 hc_X12_isFlagBarred_48 rfl) rfl
theorem dX12_isFlagBarred_56 : decode cX12_isFlagBarred 56 = .ok (.if_icmp .ne 38, 3) := o_160 (u1_8 hc_X12_isFlagBarred_48 rfl) (s2_d (u2_d (u1_9 hc_X12_isFlagBarred_48 rfl) (u1_10 hc_X12_isFlagBarred_48 rfl) rfl) rfl) rfl
theorem dX12_isFlagBarred_59 : decode cX12_isFlagBarred 59 = .ok (.iload_n 3, 1) := o_29 (u1_11 hc_X12_isFlagBarred_48 rfl) rfl
theorem dX12_isFlagBarred_60 : decode cX12_isFlagBarred 60 = .ok (.ifCond .ne 34, 3) := o_154 (u1_12 hc_X12_isFlagBarred_48 rfl) (s2_d (u2_d (u1_13 hc_X12_isFlagBarred_48 rfl) (u1_14 hc_X12_isFlagBarred_48 rfl) rfl) rfl) rfl
theorem dX12_isFlagBarred_63 : decode cX12_isFlagBarred 63 = .ok (.aload_n 0, 1) := o_42 (u1_15 hc_X12_isFlagBarred_48 rfl) rfl
theorem hc_X12_isFlagBarred_64 : ((bL cX12_isFlagBarred).drop 64).take 18 = [27, 182, 0, 208, 16, 247, 159, 0, 24, 42, 180, 0, 25, 42, 27, 182, 0, 208] := by decide +kernel
theorem dX12_isFlagBarred_64 : decode cX12_isFlagBarred 64 = .ok (.iload_n 1, 1) := o_27 (u1_0 hc_X12_isFlagBarred_64 rfl) rfl
theorem dX12_isFlagBarred_65 : decode cX12_isFlagBarred 65 = .ok (.invokevirtual 208, 3) := o_182 (u1_1 hc_X12_isFlagBarred_64 rfl) (u2_d (u1_2 hc_X12_isFlagBarred_64 rfl) (u1_3 hc_X12_isFlagBarred_64 rfl) rfl) rfl
theorem dX12_isFlagBarred_68 : decode cX12_isFlagBarred 68 = .ok (.bipush (-9), 2) := o_16 (u1_4 hc_X12_isFlagBarred_64 rfl) (s1_d (u1_5 hc_X12_isFlagBarred_64 rfl) rfl) rfl
theorem dX12_isFlagBarred_70 : decode cX12_isFlagBarred 70 = .ok (.if_icmp .eq 24, 3) := o_159 (u1_6 hc_X12_isFlagBarred_64 rfl) (s2_d (u2_d (u1_7 hc_X12_isFlagBarred_64 rfl) (u1_8 hc_X12_isFlagBarred_64 rfl) rfl) rfl) rfl
theorem dX12_isFlagBarred_73 : decode cX12_isFlagBarred 73 = .ok (.aload_n 0, 1) := o_42 (u1_9 hc_X12_isFlagBarred_64 rfl) rfl
theorem dX12_isFlagBarred_74 : decode cX12_isFlagBarred 74 = .ok (.getfield 25, 3) := o_180 (u1_10 hc_X12_isFlagBarred_64 rfl) (u2_d (u1_11 hc_X12_isFlagBarred_64 rfl) (u1_12 hc_X12_isFlagBarred_64 rfl) rfl) rfl
theorem dX12_isFlagBarred_77 : decode cX12_isFlagBarred 77 = .ok (.aload_n 0, 1) := o_42 (u1_13 hc_X12_isFlagBarred_64 rfl) rfl
theorem dX12_isFlagBarred_78 : decode cX12_isFlagBarred 78 = .ok (.iload_n 1, 1) := o_27 (u1_14 hc_X12_isFlagBarred_64 rfl) rfl
theorem dX12_isFlagBarred_79 : decode cX12_isFlagBarred 79 = .ok (.invokevirtual 208, 3) := o_182 (u1_15 hc_X12_isFlagBarred_64 rfl) (u2_d (u1_16 hc_X12_isFlagBarred_64 rfl) (u1_17 hc_X12_isFlagBarred_64 rfl) rfl) rfl
theorem hc_X12_isFlagBarred_80 : ((bL cX12_isFlagBarred).drop 80).take 18 = [0, 208, 46, 6, 160, 0, 10, 42, 27, 182, 0, 208, 54, 4, 21, 4, 16, 247] := by decide +kernel
theorem dX12_isFlagBarred_82 : decode cX12_isFlagBarred 82 = .ok (.iaload, 1) := o_46 (u1_2 hc_X12_isFlagBarred_80 rfl) rfl
theorem dX12_isFlagBarred_83 : decode cX12_isFlagBarred 83 = .ok (.iconst 3, 1) := o_6 (u1_3 hc_X12_isFlagBarred_80 rfl) rfl
theorem dX12_isFlagBarred_84 : decode cX12_isFlagBarred 84 = .ok (.if_icmp .ne 10, 3) := o_160 (u1_4 hc_X12_isFlagBarred_80 rfl) (s2_d (u2_d (u1_5 hc_X12_isFlagBarred_80 rfl) (u1_6 hc_X12_isFlagBarred_80 rfl) rfl) rfl) rfl
theorem dX12_isFlagBarred_87 : decode cX12_isFlagBarred 87 = .ok (.aload_n 0, 1) := o_42 (u1_7 hc_X12_isFlagBarred_80 rfl) rfl
theorem dX12_isFlagBarred_88 : decode cX12_isFlagBarred 88 = .ok (.iload_n 1, 1) := o_27 (u1_8 hc_X12_isFlagBarred_80 rfl) rfl
theorem dX12_isFlagBarred_89 : decode cX12_isFlagBarred 89 = .ok (.invokevirtual 208, 3) := o_182 (u1_9 hc_X12_isFlagBarred_80 rfl) (u2_d (u1_10 hc_X12_isFlagBarred_80 rfl) (u1_11 hc_X12_isFlagBarred_80 rfl) rfl) rfl
theorem dX12_isFlagBarred_92 : decode cX12_isFlagBarred 92 = .ok (.istore 4, 2) := o_54 (u1_12 hc_X12_isFlagBarred_80 rfl) (u1_13 hc_X12_isFlagBarred_80 rfl) rfl
theorem dX12_isFlagBarred_94 : decode cX12_isFlagBarred 94 = .ok (.iload 4, 2) := o_21 (u1_14 hc_X12_isFlagBarred_80 rfl) (u1_15 hc_X12_isFlagBarred_80 rfl) rfl
theorem hc_X12_isFlagBarred_96 : ((bL cX12_isFlagBarred).drop 96).take 18 = [16, 247, 159, 0, 9, 42, 21, 4, 182, 0, 212, 21, 4, 16, 247, 159, 0, 7] := by decide +kernel
theorem dX12_isFlagBarred_96 : decode cX12_isFlagBarred 96 = .ok (.bipush (-9), 2) := o_16 (u1_0 hc_X12_isFlagBarred_96 rfl) (s1_d (u1_1 hc_X12_isFlagBarred_96 rfl) rfl) rfl
theorem dX12_isFlagBarred_98 : decode cX12_isFlagBarred 98 = .ok (.if_icmp .eq 9, 3) := o_159 (u1_2 hc_X12_isFlagBarred_96 rfl) (s2_d (u2_d (u1_3 hc_X12_isFlagBarred_96 rfl) (u1_4 hc_X12_isFlagBarred_96 rfl) rfl) rfl) rfl
theorem dX12_isFlagBarred_101 : decode cX12_isFlagBarred 101 = .ok (.aload_n 0, 1) := o_42 (u1_5 hc_X12_isFlagBarred_96 rfl) rfl
theorem dX12_isFlagBarred_102 : decode cX12_isFlagBarred 102 = .ok (.iload 4, 2) := o_21 (u1_6 hc_X12_isFlagBarred_96 rfl) (u1_7 hc_X12_isFlagBarred_96 rfl) rfl
theorem dX12_isFlagBarred_104 : decode cX12_isFlagBarred 104 = .ok (.invokevirtual 212, 3) := o_182 (u1_8 hc_X12_isFlagBarred_96 rfl) (u2_d (u1_9 hc_X12_isFlagBarred_96 rfl) (u1_10 hc_X12_isFlagBarred_96 rfl) rfl) rfl
theorem dX12_isFlagBarred_107 : decode cX12_isFlagBarred 107 = .ok (.iload 4, 2) := o_21 (u1_11 hc_X12_isFlagBarred_96 rfl) (u1_12 hc_X12_isFlagBarred_96 rfl) rfl
theorem dX12_isFlagBarred_109 : decode cX12_isFlagBarred 109 = .ok (.bipush (-9), 2) := o_16 (u1_13 hc_X12_isFlagBarred_96 rfl) (s1_d (u1_14 hc_X12_isFlagBarred_96 rfl) rfl) rfl
theorem dX12_isFlagBarred_111 : decode cX12_isFlagBarred 111 = .ok (.if_icmp .eq 7, 3) := o_159 (u1_15 hc_X12_isFlagBarred_96 rfl) (s2_d (u2_d (u1_16 hc_X12_isFlagBarred_96 rfl) (u1_17 hc_X12_isFlagBarred_96 rfl) rfl) rfl) rfl
theorem hc_X12_isFlagBarred_112 : ((bL cX12_isFlagBarred).drop 112).take 18 = [0, 7, 4, 167, 0, 4, 3, 172] := by decide +kernel
theorem dX12_isFlagBarred_114 : decode cX12_isFlagBarred 114 = .ok (.iconst 1, 1) := o_4 (u1_2 hc_X12_isFlagBarred_112 rfl) rfl
theorem dX12_isFlagBarred_115 : decode cX12_isFlagBarred 115 = .ok (.goto 4, 3) := o_167 (u1_3 hc_X12_isFlagBarred_112 rfl) (s2_d (u2_d (u1_4 hc_X12_isFlagBarred_112 rfl) (u1_5 hc_X12_isFlagBarred_112 rfl) rfl) rfl) rfl
theorem dX12_isFlagBarred_118 : decode cX12_isFlagBarred 118 = .ok (.iconst 0, 1) := o_3 (u1_6 hc_X12_isFlagBarred_112 rfl) rfl
theorem dX12_isFlagBarred_119 : decode cX12_isFlagBarred 119 = .ok (.ireturn, 1) := o_172 (u1_7 hc_X12_isFlagBarred_112 rfl) rfl
theorem hc_X12_isKeyBarred_0 : ((bL cX12_isKeyBarred).drop 0).take 18 = [3, 61, 28, 42, 180, 0, 202, 162, 0, 44, 42, 180, 0, 37, 28, 51, 153, 0] := by decide +kernel
theorem dX12_isKeyBarred_0 : decode cX12_isKeyBarred 0 = .ok (.iconst 0, 1) := o_3 (u1_0 hc_X12_isKeyBarred_0 rfl) rfl
theorem dX12_isKeyBarred_1 : decode cX12_isKeyBarred 1 = .ok (.istore_n 2, 1) := o_61 (u1_1 hc_X12_isKeyBarred_0 rfl) rfl
theorem dX12_isKeyBarred_2 : decode cX12_isKeyBarred 2 = .ok (.iload_n 2, 1) := o_28 (u1_2 hc_X12_isKeyBarred_0 rfl) rfl
theorem dX12_isKeyBarred_3 : decode cX12_isKeyBarred 3 = .ok (.aload_n 0, 1) := o_42 (u1_3 hc_X12_isKeyBarred_0 rfl) rfl
theorem dX12_isKeyBarred_4 : decode cX12_isKeyBarred 4 = .ok (.getfield 202, 3) := o_180 (u1_4 hc_X12_isKeyBarred_0 rfl) (u2_d (u1_5 hc_X12_isKeyBarred_0 rfl) (u1_6 hc_X12_isKeyBarred_0 rfl) rfl) rfl
theorem dX12_isKeyBarred_7 : decode cX12_isKeyBarred 7 = .ok (.if_icmp .ge 44, 3) := o_162 (u1_7 hc_X12_isKeyBarred_0 rfl) (s2_d (u2_d (u1_8 hc_X12_isKeyBarred_0 rfl) (u1_9 hc_X12_isKeyBarred_0 rfl) rfl) rfl) rfl
theorem dX12_isKeyBarred_10 : decode cX12_isKeyBarred 10 = .ok (.aload_n 0, 1) := o_42 (u1_10 hc_X12_isKeyBarred_0 rfl) rfl
theorem dX12_isKeyBarred_11 : decode cX12_isKeyBarred 11 = .ok (.getfield 37, 3) := o_180 (u1_11 hc_X12_isKeyBarred_0 rfl) (u2_d (u1_12 hc_X12_isKeyBarred_0 rfl) (u1_13 hc_X12_isKeyBarred_0 rfl) rfl) rfl
theorem dX12_isKeyBarred_14 : decode cX12_isKeyBarred 14 = .ok (.iload_n 2, 1) := o_28 (u1_14 hc_X12_isKeyBarred_0 rfl) rfl
theorem dX12_isKeyBarred_15 : decode cX12_isKeyBarred 15 = .ok (.baload, 1) := o_51 (u1_15 hc_X12_isKeyBarred_0 rfl) rfl
theorem hc_X12_isKeyBarred_16 : ((bL cX12_isKeyBarred).drop 16).take 18 = [153, 0, 29, 42, 180, 0, 25, 28, 46, 16, 7, 160, 0, 18, 42, 180, 0, 31] := by decide +kernel
theorem dX12_isKeyBarred_16 : decode cX12_isKeyBarred 16 = .ok (.ifCond .eq 29, 3) := o_153 (u1_0 hc_X12_isKeyBarred_16 rfl) (s2_d (u2_d (u1_1 hc_X12_isKeyBarred_16 rfl) (u1_2 hc_X12_isKeyBarred_16 rfl) rfl) rfl) rfl
theorem dX12_isKeyBarred_19 : decode cX12_isKeyBarred 19 = .ok (.aload_n 0, 1) := o_42 (u1_3 hc_X12_isKeyBarred_16 rfl) rfl
theorem dX12_isKeyBarred_20 : decode cX12_isKeyBarred 20 = .ok (.getfield 25, 3) := o_180 (u1_4 hc_X12_isKeyBarred_16 rfl) (u2_d (u1_5 hc_X12_isKeyBarred_16 rfl) (u1_6 hc_X12_isKeyBarred_16 rfl) rfl) rfl
theorem dX12_isKeyBarred_23 : decode cX12_isKeyBarred 23 = .ok (.iload_n 2, 1) := o_28 (u1_7 hc_X12_isKeyBarred_16 rfl) rfl
theorem dX12_isKeyBarred_24 : decode cX12_isKeyBarred 24 = .ok (.iaload, 1) := o_46 (u1_8 hc_X12_isKeyBarred_16 rfl) rfl
theorem dX12_isKeyBarred_25 : decode cX12_isKeyBarred 25 = .ok (.bipush 7, 2) := o_16 (u1_9 hc_X12_isKeyBarred_16 rfl) (s1_d (u1_10 hc_X12_isKeyBarred_16 rfl) rfl) rfl
theorem dX12_isKeyBarred_27 : decode cX12_isKeyBarred 27 = .ok (.if_icmp .ne 18, 3) := o_160 (u1_11 hc_X12_isKeyBarred_16 rfl) (s2_d (u2_d (u1_12 hc_X12_isKeyBarred_16 rfl) (u1_13 hc_X12_isKeyBarred_16 rfl) rfl) rfl) rfl
theorem dX12_isKeyBarred_30 : decode cX12_isKeyBarred 30 = .ok (.aload_n 0, 1) := o_42 (u1_14 hc_X12_isKeyBarred_16 rfl) rfl
theorem dX12_isKeyBarred_31 : decode cX12_isKeyBarred 31 = .ok (.getfield 31, 3) := o_180 (u1_15 hc_X12_isKeyBarred_16 rfl) (u2_d (u1_16 hc_X12_isKeyBarred_16 rfl) (u1_17 hc_X12_isKeyBarred_16 rfl) rfl) rfl
theorem hc_X12_isKeyBarred_32 : ((bL cX12_isKeyBarred).drop 32).take 18 = [0, 31, 28, 46, 27, 160, 0, 8, 42, 28, 182, 0, 212, 132, 2, 1, 167, 255] := by decide +kernel
theorem dX12_isKeyBarred_34 : decode cX12_isKeyBarred 34 = .ok (.iload_n 2, 1) := o_28 (u1_2 hc_X12_isKeyBarred_32 rfl) rfl
theorem dX12_isKeyBarred_35 : decode cX12_isKeyBarred 35 = .ok (.iaload, 1) := o_46 (u1_3 hc_X12_isKeyBarred_32 rfl) rfl
theorem dX12_isKeyBarred_36 : decode cX12_isKeyBarred 36 = .ok (.iload_n 1, 1) := o_27 (u1_4 hc_X12_isKeyBarred_32 rfl) rfl
theorem dX12_isKeyBarred_37 : decode cX12_isKeyBarred 37 = .ok (.if_icmp .ne 8, 3) := o_160 (u1_5 hc_X12_isKeyBarred_32 rfl) (s2_d (u2_d (u1_6 hc_X12_isKeyBarred_32 rfl) (u1_7 hc_X12_isKeyBarred_32 rfl) rfl) rfl) rfl
theorem dX12_isKeyBarred_40 : decode cX12_isKeyBarred 40 = .ok (.aload_n 0, 1) := o_42 (u1_8 hc_X12_isKeyBarred_32 rfl) rfl
theorem dX12_isKeyBarred_41 : decode cX12_isKeyBarred 41 = .ok (.iload_n 2, 1) := o_28 (u1_9 hc_X12_isKeyBarred_32 rfl) rfl
theorem dX12_isKeyBarred_42 : decode cX12_isKeyBarred 42 = .ok (.invokevirtual 212, 3) := o_182 (u1_10 hc_X12_isKeyBarred_32 rfl) (u2_d (u1_11 hc_X12_isKeyBarred_32 rfl) (u1_12 hc_X12_isKeyBarred_32 rfl) rfl) rfl
theorem dX12_isKeyBarred_45 : decode cX12_isKeyBarred 45 = .ok (.iinc 2 1, 3) := o_132 (u1_13 hc_X12_isKeyBarred_32 rfl) (u1_14 hc_X12_isKeyBarred_32 rfl) (s1_d (u1_15 hc_X12_isKeyBarred_32 rfl) rfl) rfl
theorem hc_X12_isKeyBarred_48 : ((bL cX12_isKeyBarred).drop 48).take 18 = [167, 255, 210, 42, 180, 0, 205, 158, 0, 7, 4, 167, 0, 4, 3, 172] := by decide +kernel
theorem dX12_isKeyBarred_48 : decode cX12_isKeyBarred 48 = .ok (.goto (-46), 3) := o_167 (u1_0 hc_X12_isKeyBarred_48 rfl) (s2_d (u2_d (u1_1 hc_X12_isKeyBarred_48 rfl) (u1_2 hc_X12_isKeyBarred_48 rfl) rfl) rfl) rfl
theorem dX12_isKeyBarred_51 : decode cX12_isKeyBarred 51 = .ok (.aload_n 0, 1) := o_42 (u1_3 hc_X12_isKeyBarred_48 rfl) rfl
theorem dX12_isKeyBarred_52 : decode cX12_isKeyBarred 52 = .ok (.getfield 205, 3) := o_180 (u1_4 hc_X12_isKeyBarred_48 rfl) (u2_d (u1_5 hc_X12_isKeyBarred_48 rfl) (u1_6 hc_X12_isKeyBarred_48 rfl) rfl) rfl
theorem dX12_isKeyBarred_55 : decode cX12_isKeyBarred 55 = .ok (.ifCond .le 7, 3) := o_158 (u1_7 hc_X12_isKeyBarred_48 rfl) (s2_d (u2_d (u1_8 hc_X12_isKeyBarred_48 rfl) (u1_9 hc_X12_isKeyBarred_48 rfl) rfl) rfl) rfl
theorem dX12_isKeyBarred_58 : decode cX12_isKeyBarred 58 = .ok (.iconst 1, 1) := o_4 (u1_10 hc_X12_isKeyBarred_48 rfl) rfl
theorem dX12_isKeyBarred_59 : decode cX12_isKeyBarred 59 = .ok (.goto 4, 3) := o_167 (u1_11 hc_X12_isKeyBarred_48 rfl) (s2_d (u2_d (u1_12 hc_X12_isKeyBarred_48 rfl) (u1_13 hc_X12_isKeyBarred_48 rfl) rfl) rfl) rfl
theorem dX12_isKeyBarred_62 : decode cX12_isKeyBarred 62 = .ok (.iconst 0, 1) := o_3 (u1_14 hc_X12_isKeyBarred_48 rfl) rfl
theorem dX12_isKeyBarred_63 : decode cX12_isKeyBarred 63 = .ok (.ireturn, 1) := o_172 (u1_15 hc_X12_isKeyBarred_48 rfl) rfl
theorem hc_X12_say_0 : ((bL cX12_say).drop 0).take 18 = [42, 3, 181, 0, 205, 27, 133, 9, 20, 0, 220, 184, 0, 166, 153, 0, 15, 42] := by decide +kernel
theorem dX12_say_0 : decode cX12_say 0 = .ok (.aload_n 0, 1) := o_42 (u1_0 hc_X12_say_0 rfl) rfl
theorem dX12_say_1 : decode cX12_say 1 = .ok (.iconst 0, 1) := o_3 (u1_1 hc_X12_say_0 rfl) rfl
theorem dX12_say_2 : decode cX12_say 2 = .ok (.putfield 205, 3) := o_181 (u1_2 hc_X12_say_0 rfl) (u2_d (u1_3 hc_X12_say_0 rfl) (u1_4 hc_X12_say_0 rfl) rfl) rfl
theorem dX12_say_5 : decode cX12_say 5 = .ok (.iload_n 1, 1) := o_27 (u1_5 hc_X12_say_0 rfl) rfl
theorem dX12_say_6 : decode cX12_say 6 = .ok (.i2l, 1) := o_133 (u1_6 hc_X12_say_0 rfl) rfl
theorem dX12_say_7 : decode cX12_say 7 = .ok (.lconst 0, 1) := o_9 (u1_7 hc_X12_say_0 rfl) rfl
theorem dX12_say_8 : decode cX12_say 8 = .ok (.ldc2_w 220, 3) := o_20 (u1_8 hc_X12_say_0 rfl) (u2_d (u1_9 hc_X12_say_0 rfl) (u1_10 hc_X12_say_0 rfl) rfl) rfl
theorem dX12_say_11 : decode cX12_say 11 = .ok (.invokestatic 166, 3) := o_184 (u1_11 hc_X12_say_0 rfl) (u2_d (u1_12 hc_X12_say_0 rfl) (u1_13 hc_X12_say_0 rfl) rfl) rfl
theorem dX12_say_14 : decode cX12_say 14 = .ok (.ifCond .eq 15, 3) := o_153 (u1_14 hc_X12_say_0 rfl) (s2_d (u2_d (u1_15 hc_X12_say_0 rfl) (u1_16 hc_X12_say_0 rfl) rfl) rfl) rfl
theorem hc_X12_say_16 : ((bL cX12_say).drop 16).take 18 = [15, 42, 27, 28, 29, 21, 4, 182, 0, 222, 154, 0, 5, 2, 172, 27, 8, 161] := by decide +kernel
theorem dX12_say_17 : decode cX12_say 17 = .ok (.aload_n 0, 1) := o_42 (u1_1 hc_X12_say_16 rfl) rfl
theorem dX12_say_18 : decode cX12_say 18 = .ok (.iload_n 1, 1) := o_27 (u1_2 hc_X12_say_16 rfl) rfl
theorem dX12_say_19 : decode cX12_say 19 = .ok (.iload_n 2, 1) := o_28 (u1_3 hc_X12_say_16 rfl) rfl
theorem dX12_say_20 : decode cX12_say 20 = .ok (.iload_n 3, 1) := o_29 (u1_4 hc_X12_say_16 rfl) rfl
theorem dX12_say_21 : decode cX12_say 21 = .ok (.iload 4, 2) := o_21 (u1_5 hc_X12_say_16 rfl) (u1_6 hc_X12_say_16 rfl) rfl
theorem dX12_say_23 : decode cX12_say 23 = .ok (.invokevirtual 222, 3) := o_182 (u1_7 hc_X12_say_16 rfl) (u2_d (u1_8 hc_X12_say_16 rfl) (u1_9 hc_X12_say_16 rfl) rfl) rfl
theorem dX12_say_26 : decode cX12_say 26 = .ok (.ifCond .ne 5, 3) := o_154 (u1_10 hc_X12_say_16 rfl) (s2_d (u2_d (u1_11 hc_X12_say_16 rfl) (u1_12 hc_X12_say_16 rfl) rfl) rfl) rfl
theorem dX12_say_29 : decode cX12_say 29 = .ok (.iconst (-1), 1) := o_2 (u1_13 hc_X12_say_16 rfl) rfl
theorem dX12_say_30 : decode cX12_say 30 = .ok (.ireturn, 1) := o_172 (u1_14 hc_X12_say_16 rfl) rfl
theorem dX12_say_31 : decode cX12_say 31 = .ok (.iload_n 1, 1) := o_27 (u1_15 hc_X12_say_16 rfl) rfl
theorem hc_X12_say_32 : ((bL cX12_say).drop 32).take 18 = [8, 161, 0, 9, 27, 16, 7, 160, 0, 7, 3, 167, 0, 5, 21, 4, 54, 5] := by decide +kernel
theorem dX12_say_32 : decode cX12_say 32 = .ok (.iconst 5, 1) := o_8 (u1_0 hc_X12_say_32 rfl) rfl
theorem dX12_say_33 : decode cX12_say 33 = .ok (.if_icmp .lt 9, 3) := o_161 (u1_1 hc_X12_say_32 rfl) (s2_d (u2_d (u1_2 hc_X12_say_32 rfl) (u1_3 hc_X12_say_32 rfl) rfl) rfl) rfl
theorem dX12_say_36 : decode cX12_say 36 = .ok (.iload_n 1, 1) := o_27 (u1_4 hc_X12_say_32 rfl) rfl
theorem dX12_say_37 : decode cX12_say 37 = .ok (.bipush 7, 2) := o_16 (u1_5 hc_X12_say_32 rfl) (s1_d (u1_6 hc_X12_say_32 rfl) rfl) rfl
theorem dX12_say_39 : decode cX12_say 39 = .ok (.if_icmp .ne 7, 3) := o_160 (u1_7 hc_X12_say_32 rfl) (s2_d (u2_d (u1_8 hc_X12_say_32 rfl) (u1_9 hc_X12_say_32 rfl) rfl) rfl) rfl
theorem dX12_say_42 : decode cX12_say 42 = .ok (.iconst 0, 1) := o_3 (u1_10 hc_X12_say_32 rfl) rfl
theorem dX12_say_43 : decode cX12_say 43 = .ok (.goto 5, 3) := o_167 (u1_11 hc_X12_say_32 rfl) (s2_d (u2_d (u1_12 hc_X12_say_32 rfl) (u1_13 hc_X12_say_32 rfl) rfl) rfl) rfl
theorem dX12_say_46 : decode cX12_say 46 = .ok (.iload 4, 2) := o_21 (u1_14 hc_X12_say_32 rfl) (u1_15 hc_X12_say_32 rfl) rfl
theorem hc_X12_say_48 : ((bL cX12_say).drop 48).take 18 = [54, 5, 42, 27, 28, 29, 182, 0, 226, 153, 0, 22, 27, 16, 6, 159, 0, 12] := by decide +kernel
theorem dX12_say_48 : decode cX12_say 48 = .ok (.istore 5, 2) := o_54 (u1_0 hc_X12_say_48 rfl) (u1_1 hc_X12_say_48 rfl) rfl
theorem dX12_say_50 : decode cX12_say 50 = .ok (.aload_n 0, 1) := o_42 (u1_2 hc_X12_say_48 rfl) rfl
theorem dX12_say_51 : decode cX12_say 51 = .ok (.iload_n 1, 1) := o_27 (u1_3 hc_X12_say_48 rfl) rfl
theorem dX12_say_52 : decode cX12_say 52 = .ok (.iload_n 2, 1) := o_28 (u1_4 hc_X12_say_48 rfl) rfl
theorem dX12_say_53 : decode cX12_say 53 = .ok (.iload_n 3, 1) := o_29 (u1_5 hc_X12_say_48 rfl) rfl
theorem dX12_say_54 : decode cX12_say 54 = .ok (.invokevirtual 226, 3) := o_182 (u1_6 hc_X12_say_48 rfl) (u2_d (u1_7 hc_X12_say_48 rfl) (u1_8 hc_X12_say_48 rfl) rfl) rfl
theorem dX12_say_57 : decode cX12_say 57 = .ok (.ifCond .eq 22, 3) := o_153 (u1_9 hc_X12_say_48 rfl) (s2_d (u2_d (u1_10 hc_X12_say_48 rfl) (u1_11 hc_X12_say_48 rfl) rfl) rfl) rfl
theorem dX12_say_60 : decode cX12_say 60 = .ok (.iload_n 1, 1) := o_27 (u1_12 hc_X12_say_48 rfl) rfl
theorem dX12_say_61 : decode cX12_say 61 = .ok (.bipush 6, 2) := o_16 (u1_13 hc_X12_say_48 rfl) (s1_d (u1_14 hc_X12_say_48 rfl) rfl) rfl
theorem dX12_say_63 : decode cX12_say 63 = .ok (.if_icmp .eq 12, 3) := o_159 (u1_15 hc_X12_say_48 rfl) (s2_d (u2_d (u1_16 hc_X12_say_48 rfl) (u1_17 hc_X12_say_48 rfl) rfl) rfl) rfl
theorem hc_X12_say_64 : ((bL cX12_say).drop 64).take 18 = [0, 12, 42, 27, 29, 182, 0, 230, 153, 0, 7, 4, 167, 0, 4, 3, 54, 6] := by decide +kernel
theorem dX12_say_66 : decode cX12_say 66 = .ok (.aload_n 0, 1) := o_42 (u1_2 hc_X12_say_64 rfl) rfl
theorem dX12_say_67 : decode cX12_say 67 = .ok (.iload_n 1, 1) := o_27 (u1_3 hc_X12_say_64 rfl) rfl
theorem dX12_say_68 : decode cX12_say 68 = .ok (.iload_n 3, 1) := o_29 (u1_4 hc_X12_say_64 rfl) rfl
theorem dX12_say_69 : decode cX12_say 69 = .ok (.invokevirtual 230, 3) := o_182 (u1_5 hc_X12_say_64 rfl) (u2_d (u1_6 hc_X12_say_64 rfl) (u1_7 hc_X12_say_64 rfl) rfl) rfl
theorem dX12_say_72 : decode cX12_say 72 = .ok (.ifCond .eq 7, 3) := o_153 (u1_8 hc_X12_say_64 rfl) (s2_d (u2_d (u1_9 hc_X12_say_64 rfl) (u1_10 hc_X12_say_64 rfl) rfl) rfl) rfl
theorem dX12_say_75 : decode cX12_say 75 = .ok (.iconst 1, 1) := o_4 (u1_11 hc_X12_say_64 rfl) rfl
theorem dX12_say_76 : decode cX12_say 76 = .ok (.goto 4, 3) := o_167 (u1_12 hc_X12_say_64 rfl) (s2_d (u2_d (u1_13 hc_X12_say_64 rfl) (u1_14 hc_X12_say_64 rfl) rfl) rfl) rfl
theorem dX12_say_79 : decode cX12_say 79 = .ok (.iconst 0, 1) := o_3 (u1_15 hc_X12_say_64 rfl) rfl
theorem hc_X12_say_80 : ((bL cX12_say).drop 80).take 18 = [54, 6, 21, 6, 153, 0, 15, 42, 27, 28, 29, 21, 5, 182, 0, 216, 167, 0] := by decide +kernel
theorem dX12_say_80 : decode cX12_say 80 = .ok (.istore 6, 2) := o_54 (u1_0 hc_X12_say_80 rfl) (u1_1 hc_X12_say_80 rfl) rfl
theorem dX12_say_82 : decode cX12_say 82 = .ok (.iload 6, 2) := o_21 (u1_2 hc_X12_say_80 rfl) (u1_3 hc_X12_say_80 rfl) rfl
theorem dX12_say_84 : decode cX12_say 84 = .ok (.ifCond .eq 15, 3) := o_153 (u1_4 hc_X12_say_80 rfl) (s2_d (u2_d (u1_5 hc_X12_say_80 rfl) (u1_6 hc_X12_say_80 rfl) rfl) rfl) rfl
theorem dX12_say_87 : decode cX12_say 87 = .ok (.aload_n 0, 1) := o_42 (u1_7 hc_X12_say_80 rfl) rfl
theorem dX12_say_88 : decode cX12_say 88 = .ok (.iload_n 1, 1) := o_27 (u1_8 hc_X12_say_80 rfl) rfl
theorem dX12_say_89 : decode cX12_say 89 = .ok (.iload_n 2, 1) := o_28 (u1_9 hc_X12_say_80 rfl) rfl
theorem dX12_say_90 : decode cX12_say 90 = .ok (.iload_n 3, 1) := o_29 (u1_10 hc_X12_say_80 rfl) rfl
theorem dX12_say_91 : decode cX12_say 91 = .ok (.iload 5, 2) := o_21 (u1_11 hc_X12_say_80 rfl) (u1_12 hc_X12_say_80 rfl) rfl
theorem dX12_say_93 : decode cX12_say 93 = .ok (.invokevirtual 216, 3) := o_182 (u1_13 hc_X12_say_80 rfl) (u2_d (u1_14 hc_X12_say_80 rfl) (u1_15 hc_X12_say_80 rfl) rfl) rfl
theorem hc_X12_say_96 : ((bL cX12_say).drop 96).take 18 = [167, 0, 5, 16, 247, 54, 7, 21, 7, 16, 247, 159, 0, 6, 21, 7, 172, 42] := by decide +kernel
theorem dX12_say_96 : decode cX12_say 96 = .ok (.goto 5, 3) := o_167 (u1_0 hc_X12_say_96 rfl) (s2_d (u2_d (u1_1 hc_X12_say_96 rfl) (u1_2 hc_X12_say_96 rfl) rfl) rfl) rfl
theorem dX12_say_99 : decode cX12_say 99 = .ok (.bipush (-9), 2) := o_16 (u1_3 hc_X12_say_96 rfl) (s1_d (u1_4 hc_X12_say_96 rfl) rfl) rfl
theorem dX12_say_101 : decode cX12_say 101 = .ok (.istore 7, 2) := o_54 (u1_5 hc_X12_say_96 rfl) (u1_6 hc_X12_say_96 rfl) rfl
theorem dX12_say_103 : decode cX12_say 103 = .ok (.iload 7, 2) := o_21 (u1_7 hc_X12_say_96 rfl) (u1_8 hc_X12_say_96 rfl) rfl
theorem dX12_say_105 : decode cX12_say 105 = .ok (.bipush (-9), 2) := o_16 (u1_9 hc_X12_say_96 rfl) (s1_d (u1_10 hc_X12_say_96 rfl) rfl) rfl
theorem dX12_say_107 : decode cX12_say 107 = .ok (.if_icmp .eq 6, 3) := o_159 (u1_11 hc_X12_say_96 rfl) (s2_d (u2_d (u1_12 hc_X12_say_96 rfl) (u1_13 hc_X12_say_96 rfl) rfl) rfl) rfl
theorem dX12_say_110 : decode cX12_say 110 = .ok (.iload 7, 2) := o_21 (u1_14 hc_X12_say_96 rfl) (u1_15 hc_X12_say_96 rfl) rfl
theorem hc_X12_say_112 : ((bL cX12_say).drop 112).take 18 = [172, 42, 180, 0, 202, 17, 0, 200, 160, 0, 6, 16, 254, 172, 21, 6, 154, 0] := by decide +kernel
theorem dX12_say_112 : decode cX12_say 112 = .ok (.ireturn, 1) := o_172 (u1_0 hc_X12_say_112 rfl) rfl
theorem dX12_say_113 : decode cX12_say 113 = .ok (.aload_n 0, 1) := o_42 (u1_1 hc_X12_say_112 rfl) rfl
theorem dX12_say_114 : decode cX12_say 114 = .ok (.getfield 202, 3) := o_180 (u1_2 hc_X12_say_112 rfl) (u2_d (u1_3 hc_X12_say_112 rfl) (u1_4 hc_X12_say_112 rfl) rfl) rfl
theorem dX12_say_117 : decode cX12_say 117 = .ok (.sipush 200, 3) := o_17 (u1_5 hc_X12_say_112 rfl) (s2_d (u2_d (u1_6 hc_X12_say_112 rfl) (u1_7 hc_X12_say_112 rfl) rfl) rfl) rfl
theorem dX12_say_120 : decode cX12_say 120 = .ok (.if_icmp .ne 6, 3) := o_160 (u1_8 hc_X12_say_112 rfl) (s2_d (u2_d (u1_9 hc_X12_say_112 rfl) (u1_10 hc_X12_say_112 rfl) rfl) rfl) rfl
theorem dX12_say_123 : decode cX12_say 123 = .ok (.bipush (-2), 2) := o_16 (u1_11 hc_X12_say_112 rfl) (s1_d (u1_12 hc_X12_say_112 rfl) rfl) rfl
theorem dX12_say_125 : decode cX12_say 125 = .ok (.ireturn, 1) := o_172 (u1_13 hc_X12_say_112 rfl) rfl
theorem dX12_say_126 : decode cX12_say 126 = .ok (.iload 6, 2) := o_21 (u1_14 hc_X12_say_112 rfl) (u1_15 hc_X12_say_112 rfl) rfl
theorem hc_X12_say_128 : ((bL cX12_say).drop 128).take 18 = [154, 0, 9, 42, 6, 182, 0, 233, 172, 27, 8, 162, 0, 13, 42, 27, 28, 29] := by decide +kernel
theorem dX12_say_128 : decode cX12_say 128 = .ok (.ifCond .ne 9, 3) := o_154 (u1_0 hc_X12_say_128 rfl) (s2_d (u2_d (u1_1 hc_X12_say_128 rfl) (u1_2 hc_X12_say_128 rfl) rfl) rfl) rfl
theorem dX12_say_131 : decode cX12_say 131 = .ok (.aload_n 0, 1) := o_42 (u1_3 hc_X12_say_128 rfl) rfl
theorem dX12_say_132 : decode cX12_say 132 = .ok (.iconst 3, 1) := o_6 (u1_4 hc_X12_say_128 rfl) rfl
theorem dX12_say_133 : decode cX12_say 133 = .ok (.invokevirtual 233, 3) := o_182 (u1_5 hc_X12_say_128 rfl) (u2_d (u1_6 hc_X12_say_128 rfl) (u1_7 hc_X12_say_128 rfl) rfl) rfl
theorem dX12_say_136 : decode cX12_say 136 = .ok (.ireturn, 1) := o_172 (u1_8 hc_X12_say_128 rfl) rfl
theorem dX12_say_137 : decode cX12_say 137 = .ok (.iload_n 1, 1) := o_27 (u1_9 hc_X12_say_128 rfl) rfl
theorem dX12_say_138 : decode cX12_say 138 = .ok (.iconst 5, 1) := o_8 (u1_10 hc_X12_say_128 rfl) rfl
theorem dX12_say_139 : decode cX12_say 139 = .ok (.if_icmp .ge 13, 3) := o_162 (u1_11 hc_X12_say_128 rfl) (s2_d (u2_d (u1_12 hc_X12_say_128 rfl) (u1_13 hc_X12_say_128 rfl) rfl) rfl) rfl
theorem dX12_say_142 : decode cX12_say 142 = .ok (.aload_n 0, 1) := o_42 (u1_14 hc_X12_say_128 rfl) rfl
theorem dX12_say_143 : decode cX12_say 143 = .ok (.iload_n 1, 1) := o_27 (u1_15 hc_X12_say_128 rfl) rfl
theorem hc_X12_say_144 : ((bL cX12_say).drop 144).take 18 = [28, 29, 182, 0, 236, 167, 0, 41, 27, 8, 160, 0, 14, 42, 28, 29, 21, 4] := by decide +kernel
theorem dX12_say_144 : decode cX12_say 144 = .ok (.iload_n 2, 1) := o_28 (u1_0 hc_X12_say_144 rfl) rfl
theorem dX12_say_145 : decode cX12_say 145 = .ok (.iload_n 3, 1) := o_29 (u1_1 hc_X12_say_144 rfl) rfl
theorem dX12_say_146 : decode cX12_say 146 = .ok (.invokevirtual 236, 3) := o_182 (u1_2 hc_X12_say_144 rfl) (u2_d (u1_3 hc_X12_say_144 rfl) (u1_4 hc_X12_say_144 rfl) rfl) rfl
theorem dX12_say_149 : decode cX12_say 149 = .ok (.goto 41, 3) := o_167 (u1_5 hc_X12_say_144 rfl) (s2_d (u2_d (u1_6 hc_X12_say_144 rfl) (u1_7 hc_X12_say_144 rfl) rfl) rfl) rfl
theorem dX12_say_152 : decode cX12_say 152 = .ok (.iload_n 1, 1) := o_27 (u1_8 hc_X12_say_144 rfl) rfl
theorem dX12_say_153 : decode cX12_say 153 = .ok (.iconst 5, 1) := o_8 (u1_9 hc_X12_say_144 rfl) rfl
theorem dX12_say_154 : decode cX12_say 154 = .ok (.if_icmp .ne 14, 3) := o_160 (u1_10 hc_X12_say_144 rfl) (s2_d (u2_d (u1_11 hc_X12_say_144 rfl) (u1_12 hc_X12_say_144 rfl) rfl) rfl) rfl
theorem dX12_say_157 : decode cX12_say 157 = .ok (.aload_n 0, 1) := o_42 (u1_13 hc_X12_say_144 rfl) rfl
theorem dX12_say_158 : decode cX12_say 158 = .ok (.iload_n 2, 1) := o_28 (u1_14 hc_X12_say_144 rfl) rfl
theorem dX12_say_159 : decode cX12_say 159 = .ok (.iload_n 3, 1) := o_29 (u1_15 hc_X12_say_144 rfl) rfl
theorem hc_X12_say_160 : ((bL cX12_say).drop 160).take 18 = [21, 4, 182, 0, 239, 167, 0, 25, 27, 16, 6, 160, 0, 14, 42, 28, 29, 21] := by decide +kernel
theorem dX12_say_160 : decode cX12_say 160 = .ok (.iload 4, 2) := o_21 (u1_0 hc_X12_say_160 rfl) (u1_1 hc_X12_say_160 rfl) rfl
theorem dX12_say_162 : decode cX12_say 162 = .ok (.invokevirtual 239, 3) := o_182 (u1_2 hc_X12_say_160 rfl) (u2_d (u1_3 hc_X12_say_160 rfl) (u1_4 hc_X12_say_160 rfl) rfl) rfl
theorem dX12_say_165 : decode cX12_say 165 = .ok (.goto 25, 3) := o_167 (u1_5 hc_X12_say_160 rfl) (s2_d (u2_d (u1_6 hc_X12_say_160 rfl) (u1_7 hc_X12_say_160 rfl) rfl) rfl) rfl
theorem dX12_say_168 : decode cX12_say 168 = .ok (.iload_n 1, 1) := o_27 (u1_8 hc_X12_say_160 rfl) rfl
theorem dX12_say_169 : decode cX12_say 169 = .ok (.bipush 6, 2) := o_16 (u1_9 hc_X12_say_160 rfl) (s1_d (u1_10 hc_X12_say_160 rfl) rfl) rfl
theorem dX12_say_171 : decode cX12_say 171 = .ok (.if_icmp .ne 14, 3) := o_160 (u1_11 hc_X12_say_160 rfl) (s2_d (u2_d (u1_12 hc_X12_say_160 rfl) (u1_13 hc_X12_say_160 rfl) rfl) rfl) rfl
theorem dX12_say_174 : decode cX12_say 174 = .ok (.aload_n 0, 1) := o_42 (u1_14 hc_X12_say_160 rfl) rfl
theorem dX12_say_175 : decode cX12_say 175 = .ok (.iload_n 2, 1) := o_28 (u1_15 hc_X12_say_160 rfl) rfl
theorem hc_X12_say_176 : ((bL cX12_say).drop 176).take 18 = [29, 21, 4, 182, 0, 242, 167, 0, 8, 42, 29, 182, 0, 245, 54, 8, 21, 8] := by decide +kernel
theorem dX12_say_176 : decode cX12_say 176 = .ok (.iload_n 3, 1) := o_29 (u1_0 hc_X12_say_176 rfl) rfl
theorem dX12_say_177 : decode cX12_say 177 = .ok (.iload 4, 2) := o_21 (u1_1 hc_X12_say_176 rfl) (u1_2 hc_X12_say_176 rfl) rfl
theorem dX12_say_179 : decode cX12_say 179 = .ok (.invokevirtual 242, 3) := o_182 (u1_3 hc_X12_say_176 rfl) (u2_d (u1_4 hc_X12_say_176 rfl) (u1_5 hc_X12_say_176 rfl) rfl) rfl
theorem dX12_say_182 : decode cX12_say 182 = .ok (.goto 8, 3) := o_167 (u1_6 hc_X12_say_176 rfl) (s2_d (u2_d (u1_7 hc_X12_say_176 rfl) (u1_8 hc_X12_say_176 rfl) rfl) rfl) rfl
theorem dX12_say_185 : decode cX12_say 185 = .ok (.aload_n 0, 1) := o_42 (u1_9 hc_X12_say_176 rfl) rfl
theorem dX12_say_186 : decode cX12_say 186 = .ok (.iload_n 3, 1) := o_29 (u1_10 hc_X12_say_176 rfl) rfl
theorem dX12_say_187 : decode cX12_say 187 = .ok (.invokevirtual 245, 3) := o_182 (u1_11 hc_X12_say_176 rfl) (u2_d (u1_12 hc_X12_say_176 rfl) (u1_13 hc_X12_say_176 rfl) rfl) rfl
theorem dX12_say_190 : decode cX12_say 190 = .ok (.istore 8, 2) := o_54 (u1_14 hc_X12_say_176 rfl) (u1_15 hc_X12_say_176 rfl) rfl
theorem hc_X12_say_192 : ((bL cX12_say).drop 192).take 18 = [21, 8, 153, 0, 6, 16, 252, 172, 42, 180, 0, 25, 42, 180, 0, 202, 27, 79] := by decide +kernel
theorem dX12_say_192 : decode cX12_say 192 = .ok (.iload 8, 2) := o_21 (u1_0 hc_X12_say_192 rfl) (u1_1 hc_X12_say_192 rfl) rfl
theorem dX12_say_194 : decode cX12_say 194 = .ok (.ifCond .eq 6, 3) := o_153 (u1_2 hc_X12_say_192 rfl) (s2_d (u2_d (u1_3 hc_X12_say_192 rfl) (u1_4 hc_X12_say_192 rfl) rfl) rfl) rfl
theorem dX12_say_197 : decode cX12_say 197 = .ok (.bipush (-4), 2) := o_16 (u1_5 hc_X12_say_192 rfl) (s1_d (u1_6 hc_X12_say_192 rfl) rfl) rfl
theorem dX12_say_199 : decode cX12_say 199 = .ok (.ireturn, 1) := o_172 (u1_7 hc_X12_say_192 rfl) rfl
theorem dX12_say_200 : decode cX12_say 200 = .ok (.aload_n 0, 1) := o_42 (u1_8 hc_X12_say_192 rfl) rfl
theorem dX12_say_201 : decode cX12_say 201 = .ok (.getfield 25, 3) := o_180 (u1_9 hc_X12_say_192 rfl) (u2_d (u1_10 hc_X12_say_192 rfl) (u1_11 hc_X12_say_192 rfl) rfl) rfl
theorem dX12_say_204 : decode cX12_say 204 = .ok (.aload_n 0, 1) := o_42 (u1_12 hc_X12_say_192 rfl) rfl
theorem dX12_say_205 : decode cX12_say 205 = .ok (.getfield 202, 3) := o_180 (u1_13 hc_X12_say_192 rfl) (u2_d (u1_14 hc_X12_say_192 rfl) (u1_15 hc_X12_say_192 rfl) rfl) rfl
theorem hc_X12_say_208 : ((bL cX12_say).drop 208).take 18 = [27, 79, 42, 180, 0, 28, 42, 180, 0, 202, 28, 79, 42, 180, 0, 31, 42, 180] := by decide +kernel
theorem dX12_say_208 : decode cX12_say 208 = .ok (.iload_n 1, 1) := o_27 (u1_0 hc_X12_say_208 rfl) rfl
theorem dX12_say_209 : decode cX12_say 209 = .ok (.iastore, 1) := o_79 (u1_1 hc_X12_say_208 rfl) rfl
theorem dX12_say_210 : decode cX12_say 210 = .ok (.aload_n 0, 1) := o_42 (u1_2 hc_X12_say_208 rfl) rfl
theorem dX12_say_211 : decode cX12_say 211 = .ok (.getfield 28, 3) := o_180 (u1_3 hc_X12_say_208 rfl) (u2_d (u1_4 hc_X12_say_208 rfl) (u1_5 hc_X12_say_208 rfl) rfl) rfl
theorem dX12_say_214 : decode cX12_say 214 = .ok (.aload_n 0, 1) := o_42 (u1_6 hc_X12_say_208 rfl) rfl
theorem dX12_say_215 : decode cX12_say 215 = .ok (.getfield 202, 3) := o_180 (u1_7 hc_X12_say_208 rfl) (u2_d (u1_8 hc_X12_say_208 rfl) (u1_9 hc_X12_say_208 rfl) rfl) rfl
theorem dX12_say_218 : decode cX12_say 218 = .ok (.iload_n 2, 1) := o_28 (u1_10 hc_X12_say_208 rfl) rfl
theorem dX12_say_219 : decode cX12_say 219 = .ok (.iastore, 1) := o_79 (u1_11 hc_X12_say_208 rfl) rfl
theorem dX12_say_220 : decode cX12_say 220 = .ok (.aload_n 0, 1) := o_42 (u1_12 hc_X12_say_208 rfl) rfl
theorem dX12_say_221 : decode cX12_say 221 = .ok (.getfield 31, 3) := o_180 (u1_13 hc_X12_say_208 rfl) (u2_d (u1_14 hc_X12_say_208 rfl) (u1_15 hc_X12_say_208 rfl) rfl) rfl
theorem hc_X12_say_224 : ((bL cX12_say).drop 224).take 18 = [42, 180, 0, 202, 29, 79, 42, 180, 0, 34, 42, 180, 0, 202, 21, 5, 79, 42] := by decide +kernel
theorem dX12_say_224 : decode cX12_say 224 = .ok (.aload_n 0, 1) := o_42 (u1_0 hc_X12_say_224 rfl) rfl
theorem dX12_say_225 : decode cX12_say 225 = .ok (.getfield 202, 3) := o_180 (u1_1 hc_X12_say_224 rfl) (u2_d (u1_2 hc_X12_say_224 rfl) (u1_3 hc_X12_say_224 rfl) rfl) rfl
theorem dX12_say_228 : decode cX12_say 228 = .ok (.iload_n 3, 1) := o_29 (u1_4 hc_X12_say_224 rfl) rfl
theorem dX12_say_229 : decode cX12_say 229 = .ok (.iastore, 1) := o_79 (u1_5 hc_X12_say_224 rfl) rfl
theorem dX12_say_230 : decode cX12_say 230 = .ok (.aload_n 0, 1) := o_42 (u1_6 hc_X12_say_224 rfl) rfl
theorem dX12_say_231 : decode cX12_say 231 = .ok (.getfield 34, 3) := o_180 (u1_7 hc_X12_say_224 rfl) (u2_d (u1_8 hc_X12_say_224 rfl) (u1_9 hc_X12_say_224 rfl) rfl) rfl
theorem dX12_say_234 : decode cX12_say 234 = .ok (.aload_n 0, 1) := o_42 (u1_10 hc_X12_say_224 rfl) rfl
theorem dX12_say_235 : decode cX12_say 235 = .ok (.getfield 202, 3) := o_180 (u1_11 hc_X12_say_224 rfl) (u2_d (u1_12 hc_X12_say_224 rfl) (u1_13 hc_X12_say_224 rfl) rfl) rfl
theorem dX12_say_238 : decode cX12_say 238 = .ok (.iload 5, 2) := o_21 (u1_14 hc_X12_say_224 rfl) (u1_15 hc_X12_say_224 rfl) rfl
theorem hc_X12_say_240 : ((bL cX12_say).drop 240).take 18 = [79, 42, 180, 0, 37, 42, 180, 0, 202, 4, 84, 42, 89, 180, 0, 202, 4, 96] := by decide +kernel
theorem dX12_say_240 : decode cX12_say 240 = .ok (.iastore, 1) := o_79 (u1_0 hc_X12_say_240 rfl) rfl
theorem dX12_say_241 : decode cX12_say 241 = .ok (.aload_n 0, 1) := o_42 (u1_1 hc_X12_say_240 rfl) rfl
theorem dX12_say_242 : decode cX12_say 242 = .ok (.getfield 37, 3) := o_180 (u1_2 hc_X12_say_240 rfl) (u2_d (u1_3 hc_X12_say_240 rfl) (u1_4 hc_X12_say_240 rfl) rfl) rfl
theorem dX12_say_245 : decode cX12_say 245 = .ok (.aload_n 0, 1) := o_42 (u1_5 hc_X12_say_240 rfl) rfl
theorem dX12_say_246 : decode cX12_say 246 = .ok (.getfield 202, 3) := o_180 (u1_6 hc_X12_say_240 rfl) (u2_d (u1_7 hc_X12_say_240 rfl) (u1_8 hc_X12_say_240 rfl) rfl) rfl
theorem dX12_say_249 : decode cX12_say 249 = .ok (.iconst 1, 1) := o_4 (u1_9 hc_X12_say_240 rfl) rfl
theorem dX12_say_250 : decode cX12_say 250 = .ok (.bastore, 1) := o_84 (u1_10 hc_X12_say_240 rfl) rfl
theorem dX12_say_251 : decode cX12_say 251 = .ok (.aload_n 0, 1) := o_42 (u1_11 hc_X12_say_240 rfl) rfl
theorem dX12_say_252 : decode cX12_say 252 = .ok (.dup, 1) := o_89 (u1_12 hc_X12_say_240 rfl) rfl
theorem dX12_say_253 : decode cX12_say 253 = .ok (.getfield 202, 3) := o_180 (u1_13 hc_X12_say_240 rfl) (u2_d (u1_14 hc_X12_say_240 rfl) (u1_15 hc_X12_say_240 rfl) rfl) rfl
theorem hc_X12_say_256 : ((bL cX12_say).drop 256).take 18 = [4, 96, 181, 0, 202, 42, 182, 0, 172, 42, 180, 0, 202, 4, 100, 172] := by decide +kernel
theorem dX12_say_256 : decode cX12_say 256 = .ok (.iconst 1, 1) := o_4 (u1_0 hc_X12_say_256 rfl) rfl
theorem dX12_say_257 : decode cX12_say 257 = .ok (.iadd, 1) := o_96 (u1_1 hc_X12_say_256 rfl) rfl
theorem dX12_say_258 : decode cX12_say 258 = .ok (.putfield 202, 3) := o_181 (u1_2 hc_X12_say_256 rfl) (u2_d (u1_3 hc_X12_say_256 rfl) (u1_4 hc_X12_say_256 rfl) rfl) rfl
theorem dX12_say_261 : decode cX12_say 261 = .ok (.aload_n 0, 1) := o_42 (u1_5 hc_X12_say_256 rfl) rfl
theorem dX12_say_262 : decode cX12_say 262 = .ok (.invokevirtual 172, 3) := o_182 (u1_6 hc_X12_say_256 rfl) (u2_d (u1_7 hc_X12_say_256 rfl) (u1_8 hc_X12_say_256 rfl) rfl) rfl
theorem dX12_say_265 : decode cX12_say 265 = .ok (.aload_n 0, 1) := o_42 (u1_9 hc_X12_say_256 rfl) rfl
theorem dX12_say_266 : decode cX12_say 266 = .ok (.getfield 202, 3) := o_180 (u1_10 hc_X12_say_256 rfl) (u2_d (u1_11 hc_X12_say_256 rfl) (u1_12 hc_X12_say_256 rfl) rfl) rfl
theorem dX12_say_269 : decode cX12_say 269 = .ok (.iconst 1, 1) := o_4 (u1_13 hc_X12_say_256 rfl) rfl
theorem dX12_say_270 : decode cX12_say 270 = .ok (.isub, 1) := o_100 (u1_14 hc_X12_say_256 rfl) rfl
theorem dX12_say_271 : decode cX12_say 271 = .ok (.ireturn, 1) := o_172 (u1_15 hc_X12_say_256 rfl) rfl
theorem hc_X12_saidMany_0 : ((bL cX12_saidMany).drop 0).take 18 = [3, 60, 3, 61, 28, 42, 180, 0, 202, 162, 0, 26, 27, 42, 180, 0, 37, 28] := by decide +kernel
theorem dX12_saidMany_0 : decode cX12_saidMany 0 = .ok (.iconst 0, 1) := o_3 (u1_0 hc_X12_saidMany_0 rfl) rfl
theorem dX12_saidMany_1 : decode cX12_saidMany 1 = .ok (.istore_n 1, 1) := o_60 (u1_1 hc_X12_saidMany_0 rfl) rfl
theorem dX12_saidMany_2 : decode cX12_saidMany 2 = .ok (.iconst 0, 1) := o_3 (u1_2 hc_X12_saidMany_0 rfl) rfl
theorem dX12_saidMany_3 : decode cX12_saidMany 3 = .ok (.istore_n 2, 1) := o_61 (u1_3 hc_X12_saidMany_0 rfl) rfl
theorem dX12_saidMany_4 : decode cX12_saidMany 4 = .ok (.iload_n 2, 1) := o_28 (u1_4 hc_X12_saidMany_0 rfl) rfl
theorem dX12_saidMany_5 : decode cX12_saidMany 5 = .ok (.aload_n 0, 1) := o_42 (u1_5 hc_X12_saidMany_0 rfl) rfl
theorem dX12_saidMany_6 : decode cX12_saidMany 6 = .ok (.getfield 202, 3) := o_180 (u1_6 hc_X12_saidMany_0 rfl) (u2_d (u1_7 hc_X12_saidMany_0 rfl) (u1_8 hc_X12_saidMany_0 rfl) rfl) rfl
theorem dX12_saidMany_9 : decode cX12_saidMany 9 = .ok (.if_icmp .ge 26, 3) := o_162 (u1_9 hc_X12_saidMany_0 rfl) (s2_d (u2_d (u1_10 hc_X12_saidMany_0 rfl) (u1_11 hc_X12_saidMany_0 rfl) rfl) rfl) rfl
theorem dX12_saidMany_12 : decode cX12_saidMany 12 = .ok (.iload_n 1, 1) := o_27 (u1_12 hc_X12_saidMany_0 rfl) rfl
theorem dX12_saidMany_13 : decode cX12_saidMany 13 = .ok (.aload_n 0, 1) := o_42 (u1_13 hc_X12_saidMany_0 rfl) rfl
theorem dX12_saidMany_14 : decode cX12_saidMany 14 = .ok (.getfield 37, 3) := o_180 (u1_14 hc_X12_saidMany_0 rfl) (u2_d (u1_15 hc_X12_saidMany_0 rfl) (u1_16 hc_X12_saidMany_0 rfl) rfl) rfl
theorem hc_X12_saidMany_16 : ((bL cX12_saidMany).drop 16).take 18 = [37, 28, 51, 153, 0, 7, 4, 167, 0, 4, 3, 96, 60, 132, 2, 1, 167, 255] := by decide +kernel
theorem dX12_saidMany_17 : decode cX12_saidMany 17 = .ok (.iload_n 2, 1) := o_28 (u1_1 hc_X12_saidMany_16 rfl) rfl
theorem dX12_saidMany_18 : decode cX12_saidMany 18 = .ok (.baload, 1) := o_51 (u1_2 hc_X12_saidMany_16 rfl) rfl
theorem dX12_saidMany_19 : decode cX12_saidMany 19 = .ok (.ifCond .eq 7, 3) := o_153 (u1_3 hc_X12_saidMany_16 rfl) (s2_d (u2_d (u1_4 hc_X12_saidMany_16 rfl) (u1_5 hc_X12_saidMany_16 rfl) rfl) rfl) rfl
theorem dX12_saidMany_22 : decode cX12_saidMany 22 = .ok (.iconst 1, 1) := o_4 (u1_6 hc_X12_saidMany_16 rfl) rfl
theorem dX12_saidMany_23 : decode cX12_saidMany 23 = .ok (.goto 4, 3) := o_167 (u1_7 hc_X12_saidMany_16 rfl) (s2_d (u2_d (u1_8 hc_X12_saidMany_16 rfl) (u1_9 hc_X12_saidMany_16 rfl) rfl) rfl) rfl
theorem dX12_saidMany_26 : decode cX12_saidMany 26 = .ok (.iconst 0, 1) := o_3 (u1_10 hc_X12_saidMany_16 rfl) rfl
theorem dX12_saidMany_27 : decode cX12_saidMany 27 = .ok (.iadd, 1) := o_96 (u1_11 hc_X12_saidMany_16 rfl) rfl
theorem dX12_saidMany_28 : decode cX12_saidMany 28 = .ok (.istore_n 1, 1) := o_60 (u1_12 hc_X12_saidMany_16 rfl) rfl
theorem dX12_saidMany_29 : decode cX12_saidMany 29 = .ok (.iinc 2 1, 3) := o_132 (u1_13 hc_X12_saidMany_16 rfl) (u1_14 hc_X12_saidMany_16 rfl) (s1_d (u1_15 hc_X12_saidMany_16 rfl) rfl) rfl
theorem hc_X12_saidMany_32 : ((bL cX12_saidMany).drop 32).take 18 = [167, 255, 228, 27, 172] := by decide +kernel
theorem dX12_saidMany_32 : decode cX12_saidMany 32 = .ok (.goto (-28), 3) := o_167 (u1_0 hc_X12_saidMany_32 rfl) (s2_d (u2_d (u1_1 hc_X12_saidMany_32 rfl) (u1_2 hc_X12_saidMany_32 rfl) rfl) rfl) rfl
theorem dX12_saidMany_35 : decode cX12_saidMany 35 = .ok (.iload_n 1, 1) := o_27 (u1_3 hc_X12_saidMany_32 rfl) rfl
theorem dX12_saidMany_36 : decode cX12_saidMany 36 = .ok (.ireturn, 1) := o_172 (u1_4 hc_X12_saidMany_32 rfl) rfl
theorem hc_X12_unsay_0 : ((bL cX12_unsay).drop 0).take 18 = [27, 133, 9, 42, 180, 0, 202, 4, 100, 133, 184, 0, 166, 153, 0, 12, 42, 180] := by decide +kernel
theorem dX12_unsay_0 : decode cX12_unsay 0 = .ok (.iload_n 1, 1) := o_27 (u1_0 hc_X12_unsay_0 rfl) rfl
theorem dX12_unsay_1 : decode cX12_unsay 1 = .ok (.i2l, 1) := o_133 (u1_1 hc_X12_unsay_0 rfl) rfl
theorem dX12_unsay_2 : decode cX12_unsay 2 = .ok (.lconst 0, 1) := o_9 (u1_2 hc_X12_unsay_0 rfl) rfl
theorem dX12_unsay_3 : decode cX12_unsay 3 = .ok (.aload_n 0, 1) := o_42 (u1_3 hc_X12_unsay_0 rfl) rfl
theorem dX12_unsay_4 : decode cX12_unsay 4 = .ok (.getfield 202, 3) := o_180 (u1_4 hc_X12_unsay_0 rfl) (u2_d (u1_5 hc_X12_unsay_0 rfl) (u1_6 hc_X12_unsay_0 rfl) rfl) rfl
theorem dX12_unsay_7 : decode cX12_unsay 7 = .ok (.iconst 1, 1) := o_4 (u1_7 hc_X12_unsay_0 rfl) rfl
theorem dX12_unsay_8 : decode cX12_unsay 8 = .ok (.isub, 1) := o_100 (u1_8 hc_X12_unsay_0 rfl) rfl
theorem dX12_unsay_9 : decode cX12_unsay 9 = .ok (.i2l, 1) := o_133 (u1_9 hc_X12_unsay_0 rfl) rfl
theorem dX12_unsay_10 : decode cX12_unsay 10 = .ok (.invokestatic 166, 3) := o_184 (u1_10 hc_X12_unsay_0 rfl) (u2_d (u1_11 hc_X12_unsay_0 rfl) (u1_12 hc_X12_unsay_0 rfl) rfl) rfl
theorem dX12_unsay_13 : decode cX12_unsay 13 = .ok (.ifCond .eq 12, 3) := o_153 (u1_13 hc_X12_unsay_0 rfl) (s2_d (u2_d (u1_14 hc_X12_unsay_0 rfl) (u1_15 hc_X12_unsay_0 rfl) rfl) rfl) rfl
theorem hc_X12_unsay_16 : ((bL cX12_unsay).drop 16).take 18 = [42, 180, 0, 37, 27, 51, 154, 0, 5, 2, 172, 42, 180, 0, 37, 27, 3, 84] := by decide +kernel
theorem dX12_unsay_16 : decode cX12_unsay 16 = .ok (.aload_n 0, 1) := o_42 (u1_0 hc_X12_unsay_16 rfl) rfl
theorem dX12_unsay_17 : decode cX12_unsay 17 = .ok (.getfield 37, 3) := o_180 (u1_1 hc_X12_unsay_16 rfl) (u2_d (u1_2 hc_X12_unsay_16 rfl) (u1_3 hc_X12_unsay_16 rfl) rfl) rfl
theorem dX12_unsay_20 : decode cX12_unsay 20 = .ok (.iload_n 1, 1) := o_27 (u1_4 hc_X12_unsay_16 rfl) rfl
theorem dX12_unsay_21 : decode cX12_unsay 21 = .ok (.baload, 1) := o_51 (u1_5 hc_X12_unsay_16 rfl) rfl
theorem dX12_unsay_22 : decode cX12_unsay 22 = .ok (.ifCond .ne 5, 3) := o_154 (u1_6 hc_X12_unsay_16 rfl) (s2_d (u2_d (u1_7 hc_X12_unsay_16 rfl) (u1_8 hc_X12_unsay_16 rfl) rfl) rfl) rfl
theorem dX12_unsay_25 : decode cX12_unsay 25 = .ok (.iconst (-1), 1) := o_2 (u1_9 hc_X12_unsay_16 rfl) rfl
theorem dX12_unsay_26 : decode cX12_unsay 26 = .ok (.ireturn, 1) := o_172 (u1_10 hc_X12_unsay_16 rfl) rfl
theorem dX12_unsay_27 : decode cX12_unsay 27 = .ok (.aload_n 0, 1) := o_42 (u1_11 hc_X12_unsay_16 rfl) rfl
theorem dX12_unsay_28 : decode cX12_unsay 28 = .ok (.getfield 37, 3) := o_180 (u1_12 hc_X12_unsay_16 rfl) (u2_d (u1_13 hc_X12_unsay_16 rfl) (u1_14 hc_X12_unsay_16 rfl) rfl) rfl
theorem dX12_unsay_31 : decode cX12_unsay 31 = .ok (.iload_n 1, 1) := o_27 (u1_15 hc_X12_unsay_16 rfl) rfl
theorem hc_X12_unsay_32 : ((bL cX12_unsay).drop 32).take 18 = [3, 84, 42, 182, 0, 172, 42, 182, 0, 248, 172] := by decide +kernel
theorem dX12_unsay_32 : decode cX12_unsay 32 = .ok (.iconst 0, 1) := o_3 (u1_0 hc_X12_unsay_32 rfl) rfl
theorem dX12_unsay_33 : decode cX12_unsay 33 = .ok (.bastore, 1) := o_84 (u1_1 hc_X12_unsay_32 rfl) rfl
theorem dX12_unsay_34 : decode cX12_unsay 34 = .ok (.aload_n 0, 1) := o_42 (u1_2 hc_X12_unsay_32 rfl) rfl
theorem dX12_unsay_35 : decode cX12_unsay 35 = .ok (.invokevirtual 172, 3) := o_182 (u1_3 hc_X12_unsay_32 rfl) (u2_d (u1_4 hc_X12_unsay_32 rfl) (u1_5 hc_X12_unsay_32 rfl) rfl) rfl
theorem dX12_unsay_38 : decode cX12_unsay 38 = .ok (.aload_n 0, 1) := o_42 (u1_6 hc_X12_unsay_32 rfl) rfl
theorem dX12_unsay_39 : decode cX12_unsay 39 = .ok (.invokevirtual 248, 3) := o_182 (u1_7 hc_X12_unsay_32 rfl) (u2_d (u1_8 hc_X12_unsay_32 rfl) (u1_9 hc_X12_unsay_32 rfl) rfl) rfl
theorem dX12_unsay_42 : decode cX12_unsay 42 = .ok (.ireturn, 1) := o_172 (u1_10 hc_X12_unsay_32 rfl) rfl
theorem hc_X12_clash_0 : ((bL cX12_clash).drop 0).take 18 = [27, 133, 9, 42, 180, 0, 205, 4, 100, 133, 184, 0, 166, 153, 0, 12, 42, 180] := by decide +kernel
theorem dX12_clash_0 : decode cX12_clash 0 = .ok (.iload_n 1, 1) := o_27 (u1_0 hc_X12_clash_0 rfl) rfl
theorem dX12_clash_1 : decode cX12_clash 1 = .ok (.i2l, 1) := o_133 (u1_1 hc_X12_clash_0 rfl) rfl
theorem dX12_clash_2 : decode cX12_clash 2 = .ok (.lconst 0, 1) := o_9 (u1_2 hc_X12_clash_0 rfl) rfl
theorem dX12_clash_3 : decode cX12_clash 3 = .ok (.aload_n 0, 1) := o_42 (u1_3 hc_X12_clash_0 rfl) rfl
theorem dX12_clash_4 : decode cX12_clash 4 = .ok (.getfield 205, 3) := o_180 (u1_4 hc_X12_clash_0 rfl) (u2_d (u1_5 hc_X12_clash_0 rfl) (u1_6 hc_X12_clash_0 rfl) rfl) rfl
theorem dX12_clash_7 : decode cX12_clash 7 = .ok (.iconst 1, 1) := o_4 (u1_7 hc_X12_clash_0 rfl) rfl
theorem dX12_clash_8 : decode cX12_clash 8 = .ok (.isub, 1) := o_100 (u1_8 hc_X12_clash_0 rfl) rfl
theorem dX12_clash_9 : decode cX12_clash 9 = .ok (.i2l, 1) := o_133 (u1_9 hc_X12_clash_0 rfl) rfl
theorem dX12_clash_10 : decode cX12_clash 10 = .ok (.invokestatic 166, 3) := o_184 (u1_10 hc_X12_clash_0 rfl) (u2_d (u1_11 hc_X12_clash_0 rfl) (u1_12 hc_X12_clash_0 rfl) rfl) rfl
theorem dX12_clash_13 : decode cX12_clash 13 = .ok (.ifCond .eq 12, 3) := o_153 (u1_13 hc_X12_clash_0 rfl) (s2_d (u2_d (u1_14 hc_X12_clash_0 rfl) (u1_15 hc_X12_clash_0 rfl) rfl) rfl) rfl
theorem hc_X12_clash_16 : ((bL cX12_clash).drop 16).take 18 = [42, 180, 0, 41, 27, 46, 167, 0, 5, 16, 247, 172] := by decide +kernel
theorem dX12_clash_16 : decode cX12_clash 16 = .ok (.aload_n 0, 1) := o_42 (u1_0 hc_X12_clash_16 rfl) rfl
theorem dX12_clash_17 : decode cX12_clash 17 = .ok (.getfield 41, 3) := o_180 (u1_1 hc_X12_clash_16 rfl) (u2_d (u1_2 hc_X12_clash_16 rfl) (u1_3 hc_X12_clash_16 rfl) rfl) rfl
theorem dX12_clash_20 : decode cX12_clash 20 = .ok (.iload_n 1, 1) := o_27 (u1_4 hc_X12_clash_16 rfl) rfl
theorem dX12_clash_21 : decode cX12_clash 21 = .ok (.iaload, 1) := o_46 (u1_5 hc_X12_clash_16 rfl) rfl
theorem dX12_clash_22 : decode cX12_clash 22 = .ok (.goto 5, 3) := o_167 (u1_6 hc_X12_clash_16 rfl) (s2_d (u2_d (u1_7 hc_X12_clash_16 rfl) (u1_8 hc_X12_clash_16 rfl) rfl) rfl) rfl
theorem dX12_clash_25 : decode cX12_clash 25 = .ok (.bipush (-9), 2) := o_16 (u1_9 hc_X12_clash_16 rfl) (s1_d (u1_10 hc_X12_clash_16 rfl) rfl) rfl
theorem dX12_clash_27 : decode cX12_clash 27 = .ok (.ireturn, 1) := o_172 (u1_11 hc_X12_clash_16 rfl) rfl
theorem hc_X12_sentence_0 : ((bL cX12_sentence).drop 0).take 18 = [27, 133, 9, 42, 180, 0, 202, 4, 100, 133, 184, 0, 166, 153, 0, 15, 28, 133] := by decide +kernel
theorem dX12_sentence_0 : decode cX12_sentence 0 = .ok (.iload_n 1, 1) := o_27 (u1_0 hc_X12_sentence_0 rfl) rfl
theorem dX12_sentence_1 : decode cX12_sentence 1 = .ok (.i2l, 1) := o_133 (u1_1 hc_X12_sentence_0 rfl) rfl
theorem dX12_sentence_2 : decode cX12_sentence 2 = .ok (.lconst 0, 1) := o_9 (u1_2 hc_X12_sentence_0 rfl) rfl
theorem dX12_sentence_3 : decode cX12_sentence 3 = .ok (.aload_n 0, 1) := o_42 (u1_3 hc_X12_sentence_0 rfl) rfl
theorem dX12_sentence_4 : decode cX12_sentence 4 = .ok (.getfield 202, 3) := o_180 (u1_4 hc_X12_sentence_0 rfl) (u2_d (u1_5 hc_X12_sentence_0 rfl) (u1_6 hc_X12_sentence_0 rfl) rfl) rfl
theorem dX12_sentence_7 : decode cX12_sentence 7 = .ok (.iconst 1, 1) := o_4 (u1_7 hc_X12_sentence_0 rfl) rfl
theorem dX12_sentence_8 : decode cX12_sentence 8 = .ok (.isub, 1) := o_100 (u1_8 hc_X12_sentence_0 rfl) rfl
theorem dX12_sentence_9 : decode cX12_sentence 9 = .ok (.i2l, 1) := o_133 (u1_9 hc_X12_sentence_0 rfl) rfl
theorem dX12_sentence_10 : decode cX12_sentence 10 = .ok (.invokestatic 166, 3) := o_184 (u1_10 hc_X12_sentence_0 rfl) (u2_d (u1_11 hc_X12_sentence_0 rfl) (u1_12 hc_X12_sentence_0 rfl) rfl) rfl
theorem dX12_sentence_13 : decode cX12_sentence 13 = .ok (.ifCond .eq 15, 3) := o_153 (u1_13 hc_X12_sentence_0 rfl) (s2_d (u2_d (u1_14 hc_X12_sentence_0 rfl) (u1_15 hc_X12_sentence_0 rfl) rfl) rfl) rfl
theorem hc_X12_sentence_16 : ((bL cX12_sentence).drop 16).take 18 = [28, 133, 9, 20, 0, 252, 184, 0, 166, 154, 0, 5, 2, 172, 28, 154, 0, 12] := by decide +kernel
theorem dX12_sentence_16 : decode cX12_sentence 16 = .ok (.iload_n 2, 1) := o_28 (u1_0 hc_X12_sentence_16 rfl) rfl
theorem dX12_sentence_17 : decode cX12_sentence 17 = .ok (.i2l, 1) := o_133 (u1_1 hc_X12_sentence_16 rfl) rfl
theorem dX12_sentence_18 : decode cX12_sentence 18 = .ok (.lconst 0, 1) := o_9 (u1_2 hc_X12_sentence_16 rfl) rfl
theorem dX12_sentence_19 : decode cX12_sentence 19 = .ok (.ldc2_w 252, 3) := o_20 (u1_3 hc_X12_sentence_16 rfl) (u2_d (u1_4 hc_X12_sentence_16 rfl) (u1_5 hc_X12_sentence_16 rfl) rfl) rfl
theorem dX12_sentence_22 : decode cX12_sentence 22 = .ok (.invokestatic 166, 3) := o_184 (u1_6 hc_X12_sentence_16 rfl) (u2_d (u1_7 hc_X12_sentence_16 rfl) (u1_8 hc_X12_sentence_16 rfl) rfl) rfl
theorem dX12_sentence_25 : decode cX12_sentence 25 = .ok (.ifCond .ne 5, 3) := o_154 (u1_9 hc_X12_sentence_16 rfl) (s2_d (u2_d (u1_10 hc_X12_sentence_16 rfl) (u1_11 hc_X12_sentence_16 rfl) rfl) rfl) rfl
theorem dX12_sentence_28 : decode cX12_sentence 28 = .ok (.iconst (-1), 1) := o_2 (u1_12 hc_X12_sentence_16 rfl) rfl
theorem dX12_sentence_29 : decode cX12_sentence 29 = .ok (.ireturn, 1) := o_172 (u1_13 hc_X12_sentence_16 rfl) rfl
theorem dX12_sentence_30 : decode cX12_sentence 30 = .ok (.iload_n 2, 1) := o_28 (u1_14 hc_X12_sentence_16 rfl) rfl
theorem dX12_sentence_31 : decode cX12_sentence 31 = .ok (.ifCond .ne 12, 3) := o_154 (u1_15 hc_X12_sentence_16 rfl) (s2_d (u2_d (u1_16 hc_X12_sentence_16 rfl) (u1_17 hc_X12_sentence_16 rfl) rfl) rfl) rfl
theorem hc_X12_sentence_32 : ((bL cX12_sentence).drop 32).take 18 = [0, 12, 42, 180, 0, 25, 27, 46, 167, 0, 59, 28, 4, 160, 0, 12, 42, 180] := by decide +kernel
theorem dX12_sentence_34 : decode cX12_sentence 34 = .ok (.aload_n 0, 1) := o_42 (u1_2 hc_X12_sentence_32 rfl) rfl
theorem dX12_sentence_35 : decode cX12_sentence 35 = .ok (.getfield 25, 3) := o_180 (u1_3 hc_X12_sentence_32 rfl) (u2_d (u1_4 hc_X12_sentence_32 rfl) (u1_5 hc_X12_sentence_32 rfl) rfl) rfl
theorem dX12_sentence_38 : decode cX12_sentence 38 = .ok (.iload_n 1, 1) := o_27 (u1_6 hc_X12_sentence_32 rfl) rfl
theorem dX12_sentence_39 : decode cX12_sentence 39 = .ok (.iaload, 1) := o_46 (u1_7 hc_X12_sentence_32 rfl) rfl
theorem dX12_sentence_40 : decode cX12_sentence 40 = .ok (.goto 59, 3) := o_167 (u1_8 hc_X12_sentence_32 rfl) (s2_d (u2_d (u1_9 hc_X12_sentence_32 rfl) (u1_10 hc_X12_sentence_32 rfl) rfl) rfl) rfl
theorem dX12_sentence_43 : decode cX12_sentence 43 = .ok (.iload_n 2, 1) := o_28 (u1_11 hc_X12_sentence_32 rfl) rfl
theorem dX12_sentence_44 : decode cX12_sentence 44 = .ok (.iconst 1, 1) := o_4 (u1_12 hc_X12_sentence_32 rfl) rfl
theorem dX12_sentence_45 : decode cX12_sentence 45 = .ok (.if_icmp .ne 12, 3) := o_160 (u1_13 hc_X12_sentence_32 rfl) (s2_d (u2_d (u1_14 hc_X12_sentence_32 rfl) (u1_15 hc_X12_sentence_32 rfl) rfl) rfl) rfl
theorem hc_X12_sentence_48 : ((bL cX12_sentence).drop 48).take 18 = [42, 180, 0, 28, 27, 46, 167, 0, 45, 28, 5, 160, 0, 12, 42, 180, 0, 31] := by decide +kernel
theorem dX12_sentence_48 : decode cX12_sentence 48 = .ok (.aload_n 0, 1) := o_42 (u1_0 hc_X12_sentence_48 rfl) rfl
theorem dX12_sentence_49 : decode cX12_sentence 49 = .ok (.getfield 28, 3) := o_180 (u1_1 hc_X12_sentence_48 rfl) (u2_d (u1_2 hc_X12_sentence_48 rfl) (u1_3 hc_X12_sentence_48 rfl) rfl) rfl
theorem dX12_sentence_52 : decode cX12_sentence 52 = .ok (.iload_n 1, 1) := o_27 (u1_4 hc_X12_sentence_48 rfl) rfl
theorem dX12_sentence_53 : decode cX12_sentence 53 = .ok (.iaload, 1) := o_46 (u1_5 hc_X12_sentence_48 rfl) rfl
theorem dX12_sentence_54 : decode cX12_sentence 54 = .ok (.goto 45, 3) := o_167 (u1_6 hc_X12_sentence_48 rfl) (s2_d (u2_d (u1_7 hc_X12_sentence_48 rfl) (u1_8 hc_X12_sentence_48 rfl) rfl) rfl) rfl
theorem dX12_sentence_57 : decode cX12_sentence 57 = .ok (.iload_n 2, 1) := o_28 (u1_9 hc_X12_sentence_48 rfl) rfl
theorem dX12_sentence_58 : decode cX12_sentence 58 = .ok (.iconst 2, 1) := o_5 (u1_10 hc_X12_sentence_48 rfl) rfl
theorem dX12_sentence_59 : decode cX12_sentence 59 = .ok (.if_icmp .ne 12, 3) := o_160 (u1_11 hc_X12_sentence_48 rfl) (s2_d (u2_d (u1_12 hc_X12_sentence_48 rfl) (u1_13 hc_X12_sentence_48 rfl) rfl) rfl) rfl
theorem dX12_sentence_62 : decode cX12_sentence 62 = .ok (.aload_n 0, 1) := o_42 (u1_14 hc_X12_sentence_48 rfl) rfl
theorem dX12_sentence_63 : decode cX12_sentence 63 = .ok (.getfield 31, 3) := o_180 (u1_15 hc_X12_sentence_48 rfl) (u2_d (u1_16 hc_X12_sentence_48 rfl) (u1_17 hc_X12_sentence_48 rfl) rfl) rfl
theorem hc_X12_sentence_64 : ((bL cX12_sentence).drop 64).take 18 = [0, 31, 27, 46, 167, 0, 31, 28, 6, 160, 0, 12, 42, 180, 0, 34, 27, 46] := by decide +kernel
theorem dX12_sentence_66 : decode cX12_sentence 66 = .ok (.iload_n 1, 1) := o_27 (u1_2 hc_X12_sentence_64 rfl) rfl
theorem dX12_sentence_67 : decode cX12_sentence 67 = .ok (.iaload, 1) := o_46 (u1_3 hc_X12_sentence_64 rfl) rfl
theorem dX12_sentence_68 : decode cX12_sentence 68 = .ok (.goto 31, 3) := o_167 (u1_4 hc_X12_sentence_64 rfl) (s2_d (u2_d (u1_5 hc_X12_sentence_64 rfl) (u1_6 hc_X12_sentence_64 rfl) rfl) rfl) rfl
theorem dX12_sentence_71 : decode cX12_sentence 71 = .ok (.iload_n 2, 1) := o_28 (u1_7 hc_X12_sentence_64 rfl) rfl
theorem dX12_sentence_72 : decode cX12_sentence 72 = .ok (.iconst 3, 1) := o_6 (u1_8 hc_X12_sentence_64 rfl) rfl
theorem dX12_sentence_73 : decode cX12_sentence 73 = .ok (.if_icmp .ne 12, 3) := o_160 (u1_9 hc_X12_sentence_64 rfl) (s2_d (u2_d (u1_10 hc_X12_sentence_64 rfl) (u1_11 hc_X12_sentence_64 rfl) rfl) rfl) rfl
theorem dX12_sentence_76 : decode cX12_sentence 76 = .ok (.aload_n 0, 1) := o_42 (u1_12 hc_X12_sentence_64 rfl) rfl
theorem dX12_sentence_77 : decode cX12_sentence 77 = .ok (.getfield 34, 3) := o_180 (u1_13 hc_X12_sentence_64 rfl) (u2_d (u1_14 hc_X12_sentence_64 rfl) (u1_15 hc_X12_sentence_64 rfl) rfl) rfl
theorem hc_X12_sentence_80 : ((bL cX12_sentence).drop 80).take 18 = [27, 46, 167, 0, 17, 42, 180, 0, 37, 27, 51, 153, 0, 7, 4, 167, 0, 4] := by decide +kernel
theorem dX12_sentence_80 : decode cX12_sentence 80 = .ok (.iload_n 1, 1) := o_27 (u1_0 hc_X12_sentence_80 rfl) rfl
theorem dX12_sentence_81 : decode cX12_sentence 81 = .ok (.iaload, 1) := o_46 (u1_1 hc_X12_sentence_80 rfl) rfl
theorem dX12_sentence_82 : decode cX12_sentence 82 = .ok (.goto 17, 3) := o_167 (u1_2 hc_X12_sentence_80 rfl) (s2_d (u2_d (u1_3 hc_X12_sentence_80 rfl) (u1_4 hc_X12_sentence_80 rfl) rfl) rfl) rfl
theorem dX12_sentence_85 : decode cX12_sentence 85 = .ok (.aload_n 0, 1) := o_42 (u1_5 hc_X12_sentence_80 rfl) rfl
theorem dX12_sentence_86 : decode cX12_sentence 86 = .ok (.getfield 37, 3) := o_180 (u1_6 hc_X12_sentence_80 rfl) (u2_d (u1_7 hc_X12_sentence_80 rfl) (u1_8 hc_X12_sentence_80 rfl) rfl) rfl
theorem dX12_sentence_89 : decode cX12_sentence 89 = .ok (.iload_n 1, 1) := o_27 (u1_9 hc_X12_sentence_80 rfl) rfl
theorem dX12_sentence_90 : decode cX12_sentence 90 = .ok (.baload, 1) := o_51 (u1_10 hc_X12_sentence_80 rfl) rfl
theorem dX12_sentence_91 : decode cX12_sentence 91 = .ok (.ifCond .eq 7, 3) := o_153 (u1_11 hc_X12_sentence_80 rfl) (s2_d (u2_d (u1_12 hc_X12_sentence_80 rfl) (u1_13 hc_X12_sentence_80 rfl) rfl) rfl) rfl
theorem dX12_sentence_94 : decode cX12_sentence 94 = .ok (.iconst 1, 1) := o_4 (u1_14 hc_X12_sentence_80 rfl) rfl
theorem dX12_sentence_95 : decode cX12_sentence 95 = .ok (.goto 4, 3) := o_167 (u1_15 hc_X12_sentence_80 rfl) (s2_d (u2_d (u1_16 hc_X12_sentence_80 rfl) (u1_17 hc_X12_sentence_80 rfl) rfl) rfl) rfl
theorem hc_X12_sentence_96 : ((bL cX12_sentence).drop 96).take 18 = [0, 4, 3, 172] := by decide +kernel
theorem dX12_sentence_98 : decode cX12_sentence 98 = .ok (.iconst 0, 1) := o_3 (u1_2 hc_X12_sentence_96 rfl) rfl
theorem dX12_sentence_99 : decode cX12_sentence 99 = .ok (.ireturn, 1) := o_172 (u1_3 hc_X12_sentence_96 rfl) rfl
theorem hc_X12_place_0 : ((bL cX12_place).drop 0).take 18 = [42, 27, 182, 0, 180, 153, 0, 15, 28, 133, 9, 20, 0, 254, 184, 0, 166, 154] := by decide +kernel
theorem dX12_place_0 : decode cX12_place 0 = .ok (.aload_n 0, 1) := o_42 (u1_0 hc_X12_place_0 rfl) rfl
theorem dX12_place_1 : decode cX12_place 1 = .ok (.iload_n 1, 1) := o_27 (u1_1 hc_X12_place_0 rfl) rfl
theorem dX12_place_2 : decode cX12_place 2 = .ok (.invokevirtual 180, 3) := o_182 (u1_2 hc_X12_place_0 rfl) (u2_d (u1_3 hc_X12_place_0 rfl) (u1_4 hc_X12_place_0 rfl) rfl) rfl
theorem dX12_place_5 : decode cX12_place 5 = .ok (.ifCond .eq 15, 3) := o_153 (u1_5 hc_X12_place_0 rfl) (s2_d (u2_d (u1_6 hc_X12_place_0 rfl) (u1_7 hc_X12_place_0 rfl) rfl) rfl) rfl
theorem dX12_place_8 : decode cX12_place 8 = .ok (.iload_n 2, 1) := o_28 (u1_8 hc_X12_place_0 rfl) rfl
theorem dX12_place_9 : decode cX12_place 9 = .ok (.i2l, 1) := o_133 (u1_9 hc_X12_place_0 rfl) rfl
theorem dX12_place_10 : decode cX12_place 10 = .ok (.lconst 0, 1) := o_9 (u1_10 hc_X12_place_0 rfl) rfl
theorem dX12_place_11 : decode cX12_place 11 = .ok (.ldc2_w 254, 3) := o_20 (u1_11 hc_X12_place_0 rfl) (u2_d (u1_12 hc_X12_place_0 rfl) (u1_13 hc_X12_place_0 rfl) rfl) rfl
theorem dX12_place_14 : decode cX12_place 14 = .ok (.invokestatic 166, 3) := o_184 (u1_14 hc_X12_place_0 rfl) (u2_d (u1_15 hc_X12_place_0 rfl) (u1_16 hc_X12_place_0 rfl) rfl) rfl
theorem hc_X12_place_16 : ((bL cX12_place).drop 16).take 18 = [166, 154, 0, 5, 2, 172, 42, 27, 182, 0, 208, 62, 29, 16, 247, 160, 0, 8] := by decide +kernel
theorem dX12_place_17 : decode cX12_place 17 = .ok (.ifCond .ne 5, 3) := o_154 (u1_1 hc_X12_place_16 rfl) (s2_d (u2_d (u1_2 hc_X12_place_16 rfl) (u1_3 hc_X12_place_16 rfl) rfl) rfl) rfl
theorem dX12_place_20 : decode cX12_place 20 = .ok (.iconst (-1), 1) := o_2 (u1_4 hc_X12_place_16 rfl) rfl
theorem dX12_place_21 : decode cX12_place 21 = .ok (.ireturn, 1) := o_172 (u1_5 hc_X12_place_16 rfl) rfl
theorem dX12_place_22 : decode cX12_place 22 = .ok (.aload_n 0, 1) := o_42 (u1_6 hc_X12_place_16 rfl) rfl
theorem dX12_place_23 : decode cX12_place 23 = .ok (.iload_n 1, 1) := o_27 (u1_7 hc_X12_place_16 rfl) rfl
theorem dX12_place_24 : decode cX12_place 24 = .ok (.invokevirtual 208, 3) := o_182 (u1_8 hc_X12_place_16 rfl) (u2_d (u1_9 hc_X12_place_16 rfl) (u1_10 hc_X12_place_16 rfl) rfl) rfl
theorem dX12_place_27 : decode cX12_place 27 = .ok (.istore_n 3, 1) := o_62 (u1_11 hc_X12_place_16 rfl) rfl
theorem dX12_place_28 : decode cX12_place 28 = .ok (.iload_n 3, 1) := o_29 (u1_12 hc_X12_place_16 rfl) rfl
theorem dX12_place_29 : decode cX12_place 29 = .ok (.bipush (-9), 2) := o_16 (u1_13 hc_X12_place_16 rfl) (s1_d (u1_14 hc_X12_place_16 rfl) rfl) rfl
theorem dX12_place_31 : decode cX12_place 31 = .ok (.if_icmp .ne 8, 3) := o_160 (u1_15 hc_X12_place_16 rfl) (s2_d (u2_d (u1_16 hc_X12_place_16 rfl) (u1_17 hc_X12_place_16 rfl) rfl) rfl) rfl
theorem hc_X12_place_32 : ((bL cX12_place).drop 32).take 18 = [0, 8, 16, 247, 167, 0, 31, 28, 154, 0, 12, 42, 180, 0, 25, 29, 46, 167] := by decide +kernel
theorem dX12_place_34 : decode cX12_place 34 = .ok (.bipush (-9), 2) := o_16 (u1_2 hc_X12_place_32 rfl) (s1_d (u1_3 hc_X12_place_32 rfl) rfl) rfl
theorem dX12_place_36 : decode cX12_place 36 = .ok (.goto 31, 3) := o_167 (u1_4 hc_X12_place_32 rfl) (s2_d (u2_d (u1_5 hc_X12_place_32 rfl) (u1_6 hc_X12_place_32 rfl) rfl) rfl) rfl
theorem dX12_place_39 : decode cX12_place 39 = .ok (.iload_n 2, 1) := o_28 (u1_7 hc_X12_place_32 rfl) rfl
theorem dX12_place_40 : decode cX12_place 40 = .ok (.ifCond .ne 12, 3) := o_154 (u1_8 hc_X12_place_32 rfl) (s2_d (u2_d (u1_9 hc_X12_place_32 rfl) (u1_10 hc_X12_place_32 rfl) rfl) rfl) rfl
theorem dX12_place_43 : decode cX12_place 43 = .ok (.aload_n 0, 1) := o_42 (u1_11 hc_X12_place_32 rfl) rfl
theorem dX12_place_44 : decode cX12_place 44 = .ok (.getfield 25, 3) := o_180 (u1_12 hc_X12_place_32 rfl) (u2_d (u1_13 hc_X12_place_32 rfl) (u1_14 hc_X12_place_32 rfl) rfl) rfl
theorem dX12_place_47 : decode cX12_place 47 = .ok (.iload_n 3, 1) := o_29 (u1_15 hc_X12_place_32 rfl) rfl
theorem hc_X12_place_48 : ((bL cX12_place).drop 48).take 18 = [46, 167, 0, 18, 28, 4, 160, 0, 12, 42, 180, 0, 31, 29, 46, 167, 0, 4] := by decide +kernel
theorem dX12_place_48 : decode cX12_place 48 = .ok (.iaload, 1) := o_46 (u1_0 hc_X12_place_48 rfl) rfl
theorem dX12_place_49 : decode cX12_place 49 = .ok (.goto 18, 3) := o_167 (u1_1 hc_X12_place_48 rfl) (s2_d (u2_d (u1_2 hc_X12_place_48 rfl) (u1_3 hc_X12_place_48 rfl) rfl) rfl) rfl
theorem dX12_place_52 : decode cX12_place 52 = .ok (.iload_n 2, 1) := o_28 (u1_4 hc_X12_place_48 rfl) rfl
theorem dX12_place_53 : decode cX12_place 53 = .ok (.iconst 1, 1) := o_4 (u1_5 hc_X12_place_48 rfl) rfl
theorem dX12_place_54 : decode cX12_place 54 = .ok (.if_icmp .ne 12, 3) := o_160 (u1_6 hc_X12_place_48 rfl) (s2_d (u2_d (u1_7 hc_X12_place_48 rfl) (u1_8 hc_X12_place_48 rfl) rfl) rfl) rfl
theorem dX12_place_57 : decode cX12_place 57 = .ok (.aload_n 0, 1) := o_42 (u1_9 hc_X12_place_48 rfl) rfl
theorem dX12_place_58 : decode cX12_place 58 = .ok (.getfield 31, 3) := o_180 (u1_10 hc_X12_place_48 rfl) (u2_d (u1_11 hc_X12_place_48 rfl) (u1_12 hc_X12_place_48 rfl) rfl) rfl
theorem dX12_place_61 : decode cX12_place 61 = .ok (.iload_n 3, 1) := o_29 (u1_13 hc_X12_place_48 rfl) rfl
theorem dX12_place_62 : decode cX12_place 62 = .ok (.iaload, 1) := o_46 (u1_14 hc_X12_place_48 rfl) rfl
theorem dX12_place_63 : decode cX12_place 63 = .ok (.goto 4, 3) := o_167 (u1_15 hc_X12_place_48 rfl) (s2_d (u2_d (u1_16 hc_X12_place_48 rfl) (u1_17 hc_X12_place_48 rfl) rfl) rfl) rfl
theorem hc_X12_place_64 : ((bL cX12_place).drop 64).take 18 = [0, 4, 29, 172] := by decide +kernel
theorem dX12_place_66 : decode cX12_place 66 = .ok (.iload_n 3, 1) := o_29 (u1_2 hc_X12_place_64 rfl) rfl
theorem dX12_place_67 : decode cX12_place 67 = .ok (.ireturn, 1) := o_172 (u1_3 hc_X12_place_64 rfl) rfl
theorem hc_X12_saidFlag_0 : ((bL cX12_saidFlag).drop 0).take 18 = [42, 16, 6, 27, 28, 4, 182, 0, 216, 16, 247, 159, 0, 5, 4, 172, 42, 16] := by decide +kernel
theorem dX12_saidFlag_0 : decode cX12_saidFlag 0 = .ok (.aload_n 0, 1) := o_42 (u1_0 hc_X12_saidFlag_0 rfl) rfl
theorem dX12_saidFlag_1 : decode cX12_saidFlag 1 = .ok (.bipush 6, 2) := o_16 (u1_1 hc_X12_saidFlag_0 rfl) (s1_d (u1_2 hc_X12_saidFlag_0 rfl) rfl) rfl
theorem dX12_saidFlag_3 : decode cX12_saidFlag 3 = .ok (.iload_n 1, 1) := o_27 (u1_3 hc_X12_saidFlag_0 rfl) rfl
theorem dX12_saidFlag_4 : decode cX12_saidFlag 4 = .ok (.iload_n 2, 1) := o_28 (u1_4 hc_X12_saidFlag_0 rfl) rfl
theorem dX12_saidFlag_5 : decode cX12_saidFlag 5 = .ok (.iconst 1, 1) := o_4 (u1_5 hc_X12_saidFlag_0 rfl) rfl
theorem dX12_saidFlag_6 : decode cX12_saidFlag 6 = .ok (.invokevirtual 216, 3) := o_182 (u1_6 hc_X12_saidFlag_0 rfl) (u2_d (u1_7 hc_X12_saidFlag_0 rfl) (u1_8 hc_X12_saidFlag_0 rfl) rfl) rfl
theorem dX12_saidFlag_9 : decode cX12_saidFlag 9 = .ok (.bipush (-9), 2) := o_16 (u1_9 hc_X12_saidFlag_0 rfl) (s1_d (u1_10 hc_X12_saidFlag_0 rfl) rfl) rfl
theorem dX12_saidFlag_11 : decode cX12_saidFlag 11 = .ok (.if_icmp .eq 5, 3) := o_159 (u1_11 hc_X12_saidFlag_0 rfl) (s2_d (u2_d (u1_12 hc_X12_saidFlag_0 rfl) (u1_13 hc_X12_saidFlag_0 rfl) rfl) rfl) rfl
theorem dX12_saidFlag_14 : decode cX12_saidFlag 14 = .ok (.iconst 1, 1) := o_4 (u1_14 hc_X12_saidFlag_0 rfl) rfl
theorem dX12_saidFlag_15 : decode cX12_saidFlag 15 = .ok (.ireturn, 1) := o_172 (u1_15 hc_X12_saidFlag_0 rfl) rfl
theorem hc_X12_saidFlag_16 : ((bL cX12_saidFlag).drop 16).take 18 = [42, 16, 6, 27, 28, 3, 182, 0, 216, 16, 247, 159, 0, 5, 3, 172, 42, 180] := by decide +kernel
theorem dX12_saidFlag_16 : decode cX12_saidFlag 16 = .ok (.aload_n 0, 1) := o_42 (u1_0 hc_X12_saidFlag_16 rfl) rfl
theorem dX12_saidFlag_17 : decode cX12_saidFlag 17 = .ok (.bipush 6, 2) := o_16 (u1_1 hc_X12_saidFlag_16 rfl) (s1_d (u1_2 hc_X12_saidFlag_16 rfl) rfl) rfl
theorem dX12_saidFlag_19 : decode cX12_saidFlag 19 = .ok (.iload_n 1, 1) := o_27 (u1_3 hc_X12_saidFlag_16 rfl) rfl
theorem dX12_saidFlag_20 : decode cX12_saidFlag 20 = .ok (.iload_n 2, 1) := o_28 (u1_4 hc_X12_saidFlag_16 rfl) rfl
theorem dX12_saidFlag_21 : decode cX12_saidFlag 21 = .ok (.iconst 0, 1) := o_3 (u1_5 hc_X12_saidFlag_16 rfl) rfl
theorem dX12_saidFlag_22 : decode cX12_saidFlag 22 = .ok (.invokevirtual 216, 3) := o_182 (u1_6 hc_X12_saidFlag_16 rfl) (u2_d (u1_7 hc_X12_saidFlag_16 rfl) (u1_8 hc_X12_saidFlag_16 rfl) rfl) rfl
theorem dX12_saidFlag_25 : decode cX12_saidFlag 25 = .ok (.bipush (-9), 2) := o_16 (u1_9 hc_X12_saidFlag_16 rfl) (s1_d (u1_10 hc_X12_saidFlag_16 rfl) rfl) rfl
theorem dX12_saidFlag_27 : decode cX12_saidFlag 27 = .ok (.if_icmp .eq 5, 3) := o_159 (u1_11 hc_X12_saidFlag_16 rfl) (s2_d (u2_d (u1_12 hc_X12_saidFlag_16 rfl) (u1_13 hc_X12_saidFlag_16 rfl) rfl) rfl) rfl
theorem dX12_saidFlag_30 : decode cX12_saidFlag 30 = .ok (.iconst 0, 1) := o_3 (u1_14 hc_X12_saidFlag_16 rfl) rfl
theorem dX12_saidFlag_31 : decode cX12_saidFlag 31 = .ok (.ireturn, 1) := o_172 (u1_15 hc_X12_saidFlag_16 rfl) rfl
theorem hc_X12_saidFlag_32 : ((bL cX12_saidFlag).drop 32).take 18 = [42, 180, 0, 19, 27, 46, 62, 29, 16, 247, 159, 0, 41, 42, 180, 0, 16, 16] := by decide +kernel
theorem dX12_saidFlag_32 : decode cX12_saidFlag 32 = .ok (.aload_n 0, 1) := o_42 (u1_0 hc_X12_saidFlag_32 rfl) rfl
theorem dX12_saidFlag_33 : decode cX12_saidFlag 33 = .ok (.getfield 19, 3) := o_180 (u1_1 hc_X12_saidFlag_32 rfl) (u2_d (u1_2 hc_X12_saidFlag_32 rfl) (u1_3 hc_X12_saidFlag_32 rfl) rfl) rfl
theorem dX12_saidFlag_36 : decode cX12_saidFlag 36 = .ok (.iload_n 1, 1) := o_27 (u1_4 hc_X12_saidFlag_32 rfl) rfl
theorem dX12_saidFlag_37 : decode cX12_saidFlag 37 = .ok (.iaload, 1) := o_46 (u1_5 hc_X12_saidFlag_32 rfl) rfl
theorem dX12_saidFlag_38 : decode cX12_saidFlag 38 = .ok (.istore_n 3, 1) := o_62 (u1_6 hc_X12_saidFlag_32 rfl) rfl
theorem dX12_saidFlag_39 : decode cX12_saidFlag 39 = .ok (.iload_n 3, 1) := o_29 (u1_7 hc_X12_saidFlag_32 rfl) rfl
theorem dX12_saidFlag_40 : decode cX12_saidFlag 40 = .ok (.bipush (-9), 2) := o_16 (u1_8 hc_X12_saidFlag_32 rfl) (s1_d (u1_9 hc_X12_saidFlag_32 rfl) rfl) rfl
theorem dX12_saidFlag_42 : decode cX12_saidFlag 42 = .ok (.if_icmp .eq 41, 3) := o_159 (u1_10 hc_X12_saidFlag_32 rfl) (s2_d (u2_d (u1_11 hc_X12_saidFlag_32 rfl) (u1_12 hc_X12_saidFlag_32 rfl) rfl) rfl) rfl
theorem dX12_saidFlag_45 : decode cX12_saidFlag 45 = .ok (.aload_n 0, 1) := o_42 (u1_13 hc_X12_saidFlag_32 rfl) rfl
theorem dX12_saidFlag_46 : decode cX12_saidFlag 46 = .ok (.getfield 16, 3) := o_180 (u1_14 hc_X12_saidFlag_32 rfl) (u2_d (u1_15 hc_X12_saidFlag_32 rfl) (u1_16 hc_X12_saidFlag_32 rfl) rfl) rfl
theorem hc_X12_saidFlag_48 : ((bL cX12_saidFlag).drop 48).take 18 = [16, 16, 6, 29, 104, 28, 96, 46, 16, 247, 159, 0, 15, 42, 180, 0, 16, 16] := by decide +kernel
theorem dX12_saidFlag_49 : decode cX12_saidFlag 49 = .ok (.bipush 6, 2) := o_16 (u1_1 hc_X12_saidFlag_48 rfl) (s1_d (u1_2 hc_X12_saidFlag_48 rfl) rfl) rfl
theorem dX12_saidFlag_51 : decode cX12_saidFlag 51 = .ok (.iload_n 3, 1) := o_29 (u1_3 hc_X12_saidFlag_48 rfl) rfl
theorem dX12_saidFlag_52 : decode cX12_saidFlag 52 = .ok (.imul, 1) := o_104 (u1_4 hc_X12_saidFlag_48 rfl) rfl
theorem dX12_saidFlag_53 : decode cX12_saidFlag 53 = .ok (.iload_n 2, 1) := o_28 (u1_5 hc_X12_saidFlag_48 rfl) rfl
theorem dX12_saidFlag_54 : decode cX12_saidFlag 54 = .ok (.iadd, 1) := o_96 (u1_6 hc_X12_saidFlag_48 rfl) rfl
theorem dX12_saidFlag_55 : decode cX12_saidFlag 55 = .ok (.iaload, 1) := o_46 (u1_7 hc_X12_saidFlag_48 rfl) rfl
theorem dX12_saidFlag_56 : decode cX12_saidFlag 56 = .ok (.bipush (-9), 2) := o_16 (u1_8 hc_X12_saidFlag_48 rfl) (s1_d (u1_9 hc_X12_saidFlag_48 rfl) rfl) rfl
theorem dX12_saidFlag_58 : decode cX12_saidFlag 58 = .ok (.if_icmp .eq 15, 3) := o_159 (u1_10 hc_X12_saidFlag_48 rfl) (s2_d (u2_d (u1_11 hc_X12_saidFlag_48 rfl) (u1_12 hc_X12_saidFlag_48 rfl) rfl) rfl) rfl
theorem dX12_saidFlag_61 : decode cX12_saidFlag 61 = .ok (.aload_n 0, 1) := o_42 (u1_13 hc_X12_saidFlag_48 rfl) rfl
theorem dX12_saidFlag_62 : decode cX12_saidFlag 62 = .ok (.getfield 16, 3) := o_180 (u1_14 hc_X12_saidFlag_48 rfl) (u2_d (u1_15 hc_X12_saidFlag_48 rfl) (u1_16 hc_X12_saidFlag_48 rfl) rfl) rfl
theorem hc_X12_saidFlag_64 : ((bL cX12_saidFlag).drop 64).take 18 = [16, 16, 6, 29, 104, 28, 96, 46, 172, 42, 180, 0, 13, 29, 46, 62, 167, 255] := by decide +kernel
theorem dX12_saidFlag_65 : decode cX12_saidFlag 65 = .ok (.bipush 6, 2) := o_16 (u1_1 hc_X12_saidFlag_64 rfl) (s1_d (u1_2 hc_X12_saidFlag_64 rfl) rfl) rfl
theorem dX12_saidFlag_67 : decode cX12_saidFlag 67 = .ok (.iload_n 3, 1) := o_29 (u1_3 hc_X12_saidFlag_64 rfl) rfl
theorem dX12_saidFlag_68 : decode cX12_saidFlag 68 = .ok (.imul, 1) := o_104 (u1_4 hc_X12_saidFlag_64 rfl) rfl
theorem dX12_saidFlag_69 : decode cX12_saidFlag 69 = .ok (.iload_n 2, 1) := o_28 (u1_5 hc_X12_saidFlag_64 rfl) rfl
theorem dX12_saidFlag_70 : decode cX12_saidFlag 70 = .ok (.iadd, 1) := o_96 (u1_6 hc_X12_saidFlag_64 rfl) rfl
theorem dX12_saidFlag_71 : decode cX12_saidFlag 71 = .ok (.iaload, 1) := o_46 (u1_7 hc_X12_saidFlag_64 rfl) rfl
theorem dX12_saidFlag_72 : decode cX12_saidFlag 72 = .ok (.ireturn, 1) := o_172 (u1_8 hc_X12_saidFlag_64 rfl) rfl
theorem dX12_saidFlag_73 : decode cX12_saidFlag 73 = .ok (.aload_n 0, 1) := o_42 (u1_9 hc_X12_saidFlag_64 rfl) rfl
theorem dX12_saidFlag_74 : decode cX12_saidFlag 74 = .ok (.getfield 13, 3) := o_180 (u1_10 hc_X12_saidFlag_64 rfl) (u2_d (u1_11 hc_X12_saidFlag_64 rfl) (u1_12 hc_X12_saidFlag_64 rfl) rfl) rfl
theorem dX12_saidFlag_77 : decode cX12_saidFlag 77 = .ok (.iload_n 3, 1) := o_29 (u1_13 hc_X12_saidFlag_64 rfl) rfl
theorem dX12_saidFlag_78 : decode cX12_saidFlag 78 = .ok (.iaload, 1) := o_46 (u1_14 hc_X12_saidFlag_64 rfl) rfl
theorem dX12_saidFlag_79 : decode cX12_saidFlag 79 = .ok (.istore_n 3, 1) := o_62 (u1_15 hc_X12_saidFlag_64 rfl) rfl
theorem hc_X12_saidFlag_80 : ((bL cX12_saidFlag).drop 80).take 18 = [167, 255, 215, 28, 5, 160, 0, 16, 42, 27, 3, 182, 0, 184, 153, 0, 7, 4] := by decide +kernel
theorem dX12_saidFlag_80 : decode cX12_saidFlag 80 = .ok (.goto (-41), 3) := o_167 (u1_0 hc_X12_saidFlag_80 rfl) (s2_d (u2_d (u1_1 hc_X12_saidFlag_80 rfl) (u1_2 hc_X12_saidFlag_80 rfl) rfl) rfl) rfl
theorem dX12_saidFlag_83 : decode cX12_saidFlag 83 = .ok (.iload_n 2, 1) := o_28 (u1_3 hc_X12_saidFlag_80 rfl) rfl
theorem dX12_saidFlag_84 : decode cX12_saidFlag 84 = .ok (.iconst 2, 1) := o_5 (u1_4 hc_X12_saidFlag_80 rfl) rfl
theorem dX12_saidFlag_85 : decode cX12_saidFlag 85 = .ok (.if_icmp .ne 16, 3) := o_160 (u1_5 hc_X12_saidFlag_80 rfl) (s2_d (u2_d (u1_6 hc_X12_saidFlag_80 rfl) (u1_7 hc_X12_saidFlag_80 rfl) rfl) rfl) rfl
theorem dX12_saidFlag_88 : decode cX12_saidFlag 88 = .ok (.aload_n 0, 1) := o_42 (u1_8 hc_X12_saidFlag_80 rfl) rfl
theorem dX12_saidFlag_89 : decode cX12_saidFlag 89 = .ok (.iload_n 1, 1) := o_27 (u1_9 hc_X12_saidFlag_80 rfl) rfl
theorem dX12_saidFlag_90 : decode cX12_saidFlag 90 = .ok (.iconst 0, 1) := o_3 (u1_10 hc_X12_saidFlag_80 rfl) rfl
theorem dX12_saidFlag_91 : decode cX12_saidFlag 91 = .ok (.invokevirtual 184, 3) := o_182 (u1_11 hc_X12_saidFlag_80 rfl) (u2_d (u1_12 hc_X12_saidFlag_80 rfl) (u1_13 hc_X12_saidFlag_80 rfl) rfl) rfl
theorem dX12_saidFlag_94 : decode cX12_saidFlag 94 = .ok (.ifCond .eq 7, 3) := o_153 (u1_14 hc_X12_saidFlag_80 rfl) (s2_d (u2_d (u1_15 hc_X12_saidFlag_80 rfl) (u1_16 hc_X12_saidFlag_80 rfl) rfl) rfl) rfl
theorem hc_X12_saidFlag_96 : ((bL cX12_saidFlag).drop 96).take 18 = [7, 4, 167, 0, 4, 3, 172] := by decide +kernel
theorem dX12_saidFlag_97 : decode cX12_saidFlag 97 = .ok (.iconst 1, 1) := o_4 (u1_1 hc_X12_saidFlag_96 rfl) rfl
theorem dX12_saidFlag_98 : decode cX12_saidFlag 98 = .ok (.goto 4, 3) := o_167 (u1_2 hc_X12_saidFlag_96 rfl) (s2_d (u2_d (u1_3 hc_X12_saidFlag_96 rfl) (u1_4 hc_X12_saidFlag_96 rfl) rfl) rfl) rfl
theorem dX12_saidFlag_101 : decode cX12_saidFlag 101 = .ok (.iconst 0, 1) := o_3 (u1_5 hc_X12_saidFlag_96 rfl) rfl
theorem dX12_saidFlag_102 : decode cX12_saidFlag 102 = .ok (.ireturn, 1) := o_172 (u1_6 hc_X12_saidFlag_96 rfl) rfl
theorem hc_X12_flag_0 : ((bL cX12_flag).drop 0).take 18 = [42, 27, 182, 0, 180, 153, 0, 15, 28, 133, 9, 20, 0, 170, 184, 0, 166, 154] := by decide +kernel
theorem dX12_flag_0 : decode cX12_flag 0 = .ok (.aload_n 0, 1) := o_42 (u1_0 hc_X12_flag_0 rfl) rfl
theorem dX12_flag_1 : decode cX12_flag 1 = .ok (.iload_n 1, 1) := o_27 (u1_1 hc_X12_flag_0 rfl) rfl
theorem dX12_flag_2 : decode cX12_flag 2 = .ok (.invokevirtual 180, 3) := o_182 (u1_2 hc_X12_flag_0 rfl) (u2_d (u1_3 hc_X12_flag_0 rfl) (u1_4 hc_X12_flag_0 rfl) rfl) rfl
theorem dX12_flag_5 : decode cX12_flag 5 = .ok (.ifCond .eq 15, 3) := o_153 (u1_5 hc_X12_flag_0 rfl) (s2_d (u2_d (u1_6 hc_X12_flag_0 rfl) (u1_7 hc_X12_flag_0 rfl) rfl) rfl) rfl
theorem dX12_flag_8 : decode cX12_flag 8 = .ok (.iload_n 2, 1) := o_28 (u1_8 hc_X12_flag_0 rfl) rfl
theorem dX12_flag_9 : decode cX12_flag 9 = .ok (.i2l, 1) := o_133 (u1_9 hc_X12_flag_0 rfl) rfl
theorem dX12_flag_10 : decode cX12_flag 10 = .ok (.lconst 0, 1) := o_9 (u1_10 hc_X12_flag_0 rfl) rfl
theorem dX12_flag_11 : decode cX12_flag 11 = .ok (.ldc2_w 170, 3) := o_20 (u1_11 hc_X12_flag_0 rfl) (u2_d (u1_12 hc_X12_flag_0 rfl) (u1_13 hc_X12_flag_0 rfl) rfl) rfl
theorem dX12_flag_14 : decode cX12_flag 14 = .ok (.invokestatic 166, 3) := o_184 (u1_14 hc_X12_flag_0 rfl) (u2_d (u1_15 hc_X12_flag_0 rfl) (u1_16 hc_X12_flag_0 rfl) rfl) rfl
theorem hc_X12_flag_16 : ((bL cX12_flag).drop 16).take 18 = [166, 154, 0, 5, 2, 172, 42, 27, 28, 182, 0, 199, 153, 0, 12, 42, 27, 28] := by decide +kernel
theorem dX12_flag_17 : decode cX12_flag 17 = .ok (.ifCond .ne 5, 3) := o_154 (u1_1 hc_X12_flag_16 rfl) (s2_d (u2_d (u1_2 hc_X12_flag_16 rfl) (u1_3 hc_X12_flag_16 rfl) rfl) rfl) rfl
theorem dX12_flag_20 : decode cX12_flag 20 = .ok (.iconst (-1), 1) := o_2 (u1_4 hc_X12_flag_16 rfl) rfl
theorem dX12_flag_21 : decode cX12_flag 21 = .ok (.ireturn, 1) := o_172 (u1_5 hc_X12_flag_16 rfl) rfl
theorem dX12_flag_22 : decode cX12_flag 22 = .ok (.aload_n 0, 1) := o_42 (u1_6 hc_X12_flag_16 rfl) rfl
theorem dX12_flag_23 : decode cX12_flag 23 = .ok (.iload_n 1, 1) := o_27 (u1_7 hc_X12_flag_16 rfl) rfl
theorem dX12_flag_24 : decode cX12_flag 24 = .ok (.iload_n 2, 1) := o_28 (u1_8 hc_X12_flag_16 rfl) rfl
theorem dX12_flag_25 : decode cX12_flag 25 = .ok (.invokevirtual 199, 3) := o_182 (u1_9 hc_X12_flag_16 rfl) (u2_d (u1_10 hc_X12_flag_16 rfl) (u1_11 hc_X12_flag_16 rfl) rfl) rfl
theorem dX12_flag_28 : decode cX12_flag 28 = .ok (.ifCond .eq 12, 3) := o_153 (u1_12 hc_X12_flag_16 rfl) (s2_d (u2_d (u1_13 hc_X12_flag_16 rfl) (u1_14 hc_X12_flag_16 rfl) rfl) rfl) rfl
theorem dX12_flag_31 : decode cX12_flag 31 = .ok (.aload_n 0, 1) := o_42 (u1_15 hc_X12_flag_16 rfl) rfl
theorem hc_X12_flag_32 : ((bL cX12_flag).drop 32).take 18 = [27, 28, 182, 1, 0, 167, 0, 8, 42, 6, 182, 0, 233, 172] := by decide +kernel
theorem dX12_flag_32 : decode cX12_flag 32 = .ok (.iload_n 1, 1) := o_27 (u1_0 hc_X12_flag_32 rfl) rfl
theorem dX12_flag_33 : decode cX12_flag 33 = .ok (.iload_n 2, 1) := o_28 (u1_1 hc_X12_flag_32 rfl) rfl
theorem dX12_flag_34 : decode cX12_flag 34 = .ok (.invokevirtual 256, 3) := o_182 (u1_2 hc_X12_flag_32 rfl) (u2_d (u1_3 hc_X12_flag_32 rfl) (u1_4 hc_X12_flag_32 rfl) rfl) rfl
theorem dX12_flag_37 : decode cX12_flag 37 = .ok (.goto 8, 3) := o_167 (u1_5 hc_X12_flag_32 rfl) (s2_d (u2_d (u1_6 hc_X12_flag_32 rfl) (u1_7 hc_X12_flag_32 rfl) rfl) rfl) rfl
theorem dX12_flag_40 : decode cX12_flag 40 = .ok (.aload_n 0, 1) := o_42 (u1_8 hc_X12_flag_32 rfl) rfl
theorem dX12_flag_41 : decode cX12_flag 41 = .ok (.iconst 3, 1) := o_6 (u1_9 hc_X12_flag_32 rfl) rfl
theorem dX12_flag_42 : decode cX12_flag 42 = .ok (.invokevirtual 233, 3) := o_182 (u1_10 hc_X12_flag_32 rfl) (u2_d (u1_11 hc_X12_flag_32 rfl) (u1_12 hc_X12_flag_32 rfl) rfl) rfl
theorem dX12_flag_45 : decode cX12_flag 45 = .ok (.ireturn, 1) := o_172 (u1_13 hc_X12_flag_32 rfl) rfl
theorem hc_X12_keyOf_0 : ((bL cX12_keyOf).drop 0).take 18 = [3, 61, 28, 42, 180, 0, 202, 162, 0, 46, 42, 180, 0, 37, 28, 51, 153, 0] := by decide +kernel
theorem dX12_keyOf_0 : decode cX12_keyOf 0 = .ok (.iconst 0, 1) := o_3 (u1_0 hc_X12_keyOf_0 rfl) rfl
theorem dX12_keyOf_1 : decode cX12_keyOf 1 = .ok (.istore_n 2, 1) := o_61 (u1_1 hc_X12_keyOf_0 rfl) rfl
theorem dX12_keyOf_2 : decode cX12_keyOf 2 = .ok (.iload_n 2, 1) := o_28 (u1_2 hc_X12_keyOf_0 rfl) rfl
theorem dX12_keyOf_3 : decode cX12_keyOf 3 = .ok (.aload_n 0, 1) := o_42 (u1_3 hc_X12_keyOf_0 rfl) rfl
theorem dX12_keyOf_4 : decode cX12_keyOf 4 = .ok (.getfield 202, 3) := o_180 (u1_4 hc_X12_keyOf_0 rfl) (u2_d (u1_5 hc_X12_keyOf_0 rfl) (u1_6 hc_X12_keyOf_0 rfl) rfl) rfl
theorem dX12_keyOf_7 : decode cX12_keyOf 7 = .ok (.if_icmp .ge 46, 3) := o_162 (u1_7 hc_X12_keyOf_0 rfl) (s2_d (u2_d (u1_8 hc_X12_keyOf_0 rfl) (u1_9 hc_X12_keyOf_0 rfl) rfl) rfl) rfl
theorem dX12_keyOf_10 : decode cX12_keyOf 10 = .ok (.aload_n 0, 1) := o_42 (u1_10 hc_X12_keyOf_0 rfl) rfl
theorem dX12_keyOf_11 : decode cX12_keyOf 11 = .ok (.getfield 37, 3) := o_180 (u1_11 hc_X12_keyOf_0 rfl) (u2_d (u1_12 hc_X12_keyOf_0 rfl) (u1_13 hc_X12_keyOf_0 rfl) rfl) rfl
theorem dX12_keyOf_14 : decode cX12_keyOf 14 = .ok (.iload_n 2, 1) := o_28 (u1_14 hc_X12_keyOf_0 rfl) rfl
theorem dX12_keyOf_15 : decode cX12_keyOf 15 = .ok (.baload, 1) := o_51 (u1_15 hc_X12_keyOf_0 rfl) rfl
theorem hc_X12_keyOf_16 : ((bL cX12_keyOf).drop 16).take 18 = [153, 0, 31, 42, 180, 0, 25, 28, 46, 16, 7, 160, 0, 20, 42, 180, 0, 31] := by decide +kernel
theorem dX12_keyOf_16 : decode cX12_keyOf 16 = .ok (.ifCond .eq 31, 3) := o_153 (u1_0 hc_X12_keyOf_16 rfl) (s2_d (u2_d (u1_1 hc_X12_keyOf_16 rfl) (u1_2 hc_X12_keyOf_16 rfl) rfl) rfl) rfl
theorem dX12_keyOf_19 : decode cX12_keyOf 19 = .ok (.aload_n 0, 1) := o_42 (u1_3 hc_X12_keyOf_16 rfl) rfl
theorem dX12_keyOf_20 : decode cX12_keyOf 20 = .ok (.getfield 25, 3) := o_180 (u1_4 hc_X12_keyOf_16 rfl) (u2_d (u1_5 hc_X12_keyOf_16 rfl) (u1_6 hc_X12_keyOf_16 rfl) rfl) rfl
theorem dX12_keyOf_23 : decode cX12_keyOf 23 = .ok (.iload_n 2, 1) := o_28 (u1_7 hc_X12_keyOf_16 rfl) rfl
theorem dX12_keyOf_24 : decode cX12_keyOf 24 = .ok (.iaload, 1) := o_46 (u1_8 hc_X12_keyOf_16 rfl) rfl
theorem dX12_keyOf_25 : decode cX12_keyOf 25 = .ok (.bipush 7, 2) := o_16 (u1_9 hc_X12_keyOf_16 rfl) (s1_d (u1_10 hc_X12_keyOf_16 rfl) rfl) rfl
theorem dX12_keyOf_27 : decode cX12_keyOf 27 = .ok (.if_icmp .ne 20, 3) := o_160 (u1_11 hc_X12_keyOf_16 rfl) (s2_d (u2_d (u1_12 hc_X12_keyOf_16 rfl) (u1_13 hc_X12_keyOf_16 rfl) rfl) rfl) rfl
theorem dX12_keyOf_30 : decode cX12_keyOf 30 = .ok (.aload_n 0, 1) := o_42 (u1_14 hc_X12_keyOf_16 rfl) rfl
theorem dX12_keyOf_31 : decode cX12_keyOf 31 = .ok (.getfield 31, 3) := o_180 (u1_15 hc_X12_keyOf_16 rfl) (u2_d (u1_16 hc_X12_keyOf_16 rfl) (u1_17 hc_X12_keyOf_16 rfl) rfl) rfl
theorem hc_X12_keyOf_32 : ((bL cX12_keyOf).drop 32).take 18 = [0, 31, 28, 46, 27, 160, 0, 10, 42, 180, 0, 28, 28, 46, 172, 132, 2, 1] := by decide +kernel
theorem dX12_keyOf_34 : decode cX12_keyOf 34 = .ok (.iload_n 2, 1) := o_28 (u1_2 hc_X12_keyOf_32 rfl) rfl
theorem dX12_keyOf_35 : decode cX12_keyOf 35 = .ok (.iaload, 1) := o_46 (u1_3 hc_X12_keyOf_32 rfl) rfl
theorem dX12_keyOf_36 : decode cX12_keyOf 36 = .ok (.iload_n 1, 1) := o_27 (u1_4 hc_X12_keyOf_32 rfl) rfl
theorem dX12_keyOf_37 : decode cX12_keyOf 37 = .ok (.if_icmp .ne 10, 3) := o_160 (u1_5 hc_X12_keyOf_32 rfl) (s2_d (u2_d (u1_6 hc_X12_keyOf_32 rfl) (u1_7 hc_X12_keyOf_32 rfl) rfl) rfl) rfl
theorem dX12_keyOf_40 : decode cX12_keyOf 40 = .ok (.aload_n 0, 1) := o_42 (u1_8 hc_X12_keyOf_32 rfl) rfl
theorem dX12_keyOf_41 : decode cX12_keyOf 41 = .ok (.getfield 28, 3) := o_180 (u1_9 hc_X12_keyOf_32 rfl) (u2_d (u1_10 hc_X12_keyOf_32 rfl) (u1_11 hc_X12_keyOf_32 rfl) rfl) rfl
theorem dX12_keyOf_44 : decode cX12_keyOf 44 = .ok (.iload_n 2, 1) := o_28 (u1_12 hc_X12_keyOf_32 rfl) rfl
theorem dX12_keyOf_45 : decode cX12_keyOf 45 = .ok (.iaload, 1) := o_46 (u1_13 hc_X12_keyOf_32 rfl) rfl
theorem dX12_keyOf_46 : decode cX12_keyOf 46 = .ok (.ireturn, 1) := o_172 (u1_14 hc_X12_keyOf_32 rfl) rfl
theorem dX12_keyOf_47 : decode cX12_keyOf 47 = .ok (.iinc 2 1, 3) := o_132 (u1_15 hc_X12_keyOf_32 rfl) (u1_16 hc_X12_keyOf_32 rfl) (s1_d (u1_17 hc_X12_keyOf_32 rfl) rfl) rfl
theorem hc_X12_keyOf_48 : ((bL cX12_keyOf).drop 48).take 18 = [2, 1, 167, 255, 208, 16, 247, 172] := by decide +kernel
theorem dX12_keyOf_50 : decode cX12_keyOf 50 = .ok (.goto (-48), 3) := o_167 (u1_2 hc_X12_keyOf_48 rfl) (s2_d (u2_d (u1_3 hc_X12_keyOf_48 rfl) (u1_4 hc_X12_keyOf_48 rfl) rfl) rfl) rfl
theorem dX12_keyOf_53 : decode cX12_keyOf 53 = .ok (.bipush (-9), 2) := o_16 (u1_5 hc_X12_keyOf_48 rfl) (s1_d (u1_6 hc_X12_keyOf_48 rfl) rfl) rfl
theorem dX12_keyOf_55 : decode cX12_keyOf 55 = .ok (.ireturn, 1) := o_172 (u1_7 hc_X12_keyOf_48 rfl) rfl
theorem hc_X12_key_0 : ((bL cX12_key).drop 0).take 18 = [42, 27, 182, 0, 180, 154, 0, 7, 2, 167, 0, 24, 42, 27, 182, 0, 191, 153] := by decide +kernel
theorem dX12_key_0 : decode cX12_key 0 = .ok (.aload_n 0, 1) := o_42 (u1_0 hc_X12_key_0 rfl) rfl
theorem dX12_key_1 : decode cX12_key 1 = .ok (.iload_n 1, 1) := o_27 (u1_1 hc_X12_key_0 rfl) rfl
theorem dX12_key_2 : decode cX12_key 2 = .ok (.invokevirtual 180, 3) := o_182 (u1_2 hc_X12_key_0 rfl) (u2_d (u1_3 hc_X12_key_0 rfl) (u1_4 hc_X12_key_0 rfl) rfl) rfl
theorem dX12_key_5 : decode cX12_key 5 = .ok (.ifCond .ne 7, 3) := o_154 (u1_5 hc_X12_key_0 rfl) (s2_d (u2_d (u1_6 hc_X12_key_0 rfl) (u1_7 hc_X12_key_0 rfl) rfl) rfl) rfl
theorem dX12_key_8 : decode cX12_key 8 = .ok (.iconst (-1), 1) := o_2 (u1_8 hc_X12_key_0 rfl) rfl
theorem dX12_key_9 : decode cX12_key 9 = .ok (.goto 24, 3) := o_167 (u1_9 hc_X12_key_0 rfl) (s2_d (u2_d (u1_10 hc_X12_key_0 rfl) (u1_11 hc_X12_key_0 rfl) rfl) rfl) rfl
theorem dX12_key_12 : decode cX12_key 12 = .ok (.aload_n 0, 1) := o_42 (u1_12 hc_X12_key_0 rfl) rfl
theorem dX12_key_13 : decode cX12_key 13 = .ok (.iload_n 1, 1) := o_27 (u1_13 hc_X12_key_0 rfl) rfl
theorem dX12_key_14 : decode cX12_key 14 = .ok (.invokevirtual 191, 3) := o_182 (u1_14 hc_X12_key_0 rfl) (u2_d (u1_15 hc_X12_key_0 rfl) (u1_16 hc_X12_key_0 rfl) rfl) rfl
theorem hc_X12_key_16 : ((bL cX12_key).drop 16).take 18 = [191, 153, 0, 11, 42, 27, 182, 1, 4, 167, 0, 8, 42, 6, 182, 0, 233, 172] := by decide +kernel
theorem dX12_key_17 : decode cX12_key 17 = .ok (.ifCond .eq 11, 3) := o_153 (u1_1 hc_X12_key_16 rfl) (s2_d (u2_d (u1_2 hc_X12_key_16 rfl) (u1_3 hc_X12_key_16 rfl) rfl) rfl) rfl
theorem dX12_key_20 : decode cX12_key 20 = .ok (.aload_n 0, 1) := o_42 (u1_4 hc_X12_key_16 rfl) rfl
theorem dX12_key_21 : decode cX12_key 21 = .ok (.iload_n 1, 1) := o_27 (u1_5 hc_X12_key_16 rfl) rfl
theorem dX12_key_22 : decode cX12_key 22 = .ok (.invokevirtual 260, 3) := o_182 (u1_6 hc_X12_key_16 rfl) (u2_d (u1_7 hc_X12_key_16 rfl) (u1_8 hc_X12_key_16 rfl) rfl) rfl
theorem dX12_key_25 : decode cX12_key 25 = .ok (.goto 8, 3) := o_167 (u1_9 hc_X12_key_16 rfl) (s2_d (u2_d (u1_10 hc_X12_key_16 rfl) (u1_11 hc_X12_key_16 rfl) rfl) rfl) rfl
theorem dX12_key_28 : decode cX12_key 28 = .ok (.aload_n 0, 1) := o_42 (u1_12 hc_X12_key_16 rfl) rfl
theorem dX12_key_29 : decode cX12_key 29 = .ok (.iconst 3, 1) := o_6 (u1_13 hc_X12_key_16 rfl) rfl
theorem dX12_key_30 : decode cX12_key 30 = .ok (.invokevirtual 233, 3) := o_182 (u1_14 hc_X12_key_16 rfl) (u2_d (u1_15 hc_X12_key_16 rfl) (u1_16 hc_X12_key_16 rfl) rfl) rfl
theorem hc_X12_key_32 : ((bL cX12_key).drop 32).take 18 = [233, 172] := by decide +kernel
theorem dX12_key_33 : decode cX12_key 33 = .ok (.ireturn, 1) := o_172 (u1_1 hc_X12_key_32 rfl) rfl
theorem hc_X12_findExit_0 : ((bL cX12_findExit).drop 0).take 18 = [42, 16, 247, 181, 1, 7, 42, 16, 247, 181, 1, 10, 42, 16, 247, 181, 1, 13] := by decide +kernel
theorem dX12_findExit_0 : decode cX12_findExit 0 = .ok (.aload_n 0, 1) := o_42 (u1_0 hc_X12_findExit_0 rfl) rfl
theorem dX12_findExit_1 : decode cX12_findExit 1 = .ok (.bipush (-9), 2) := o_16 (u1_1 hc_X12_findExit_0 rfl) (s1_d (u1_2 hc_X12_findExit_0 rfl) rfl) rfl
theorem dX12_findExit_3 : decode cX12_findExit 3 = .ok (.putfield 263, 3) := o_181 (u1_3 hc_X12_findExit_0 rfl) (u2_d (u1_4 hc_X12_findExit_0 rfl) (u1_5 hc_X12_findExit_0 rfl) rfl) rfl
theorem dX12_findExit_6 : decode cX12_findExit 6 = .ok (.aload_n 0, 1) := o_42 (u1_6 hc_X12_findExit_0 rfl) rfl
theorem dX12_findExit_7 : decode cX12_findExit 7 = .ok (.bipush (-9), 2) := o_16 (u1_7 hc_X12_findExit_0 rfl) (s1_d (u1_8 hc_X12_findExit_0 rfl) rfl) rfl
theorem dX12_findExit_9 : decode cX12_findExit 9 = .ok (.putfield 266, 3) := o_181 (u1_9 hc_X12_findExit_0 rfl) (u2_d (u1_10 hc_X12_findExit_0 rfl) (u1_11 hc_X12_findExit_0 rfl) rfl) rfl
theorem dX12_findExit_12 : decode cX12_findExit 12 = .ok (.aload_n 0, 1) := o_42 (u1_12 hc_X12_findExit_0 rfl) rfl
theorem dX12_findExit_13 : decode cX12_findExit 13 = .ok (.bipush (-9), 2) := o_16 (u1_13 hc_X12_findExit_0 rfl) (s1_d (u1_14 hc_X12_findExit_0 rfl) rfl) rfl
theorem dX12_findExit_15 : decode cX12_findExit 15 = .ok (.putfield 269, 3) := o_181 (u1_15 hc_X12_findExit_0 rfl) (u2_d (u1_16 hc_X12_findExit_0 rfl) (u1_17 hc_X12_findExit_0 rfl) rfl) rfl
theorem hc_X12_findExit_16 : ((bL cX12_findExit).drop 16).take 18 = [1, 13, 42, 3, 181, 1, 16, 28, 5, 112, 154, 0, 9, 28, 4, 96, 167, 0] := by decide +kernel
theorem dX12_findExit_18 : decode cX12_findExit 18 = .ok (.aload_n 0, 1) := o_42 (u1_2 hc_X12_findExit_16 rfl) rfl
theorem dX12_findExit_19 : decode cX12_findExit 19 = .ok (.iconst 0, 1) := o_3 (u1_3 hc_X12_findExit_16 rfl) rfl
theorem dX12_findExit_20 : decode cX12_findExit 20 = .ok (.putfield 272, 3) := o_181 (u1_4 hc_X12_findExit_16 rfl) (u2_d (u1_5 hc_X12_findExit_16 rfl) (u1_6 hc_X12_findExit_16 rfl) rfl) rfl
theorem dX12_findExit_23 : decode cX12_findExit 23 = .ok (.iload_n 2, 1) := o_28 (u1_7 hc_X12_findExit_16 rfl) rfl
theorem dX12_findExit_24 : decode cX12_findExit 24 = .ok (.iconst 2, 1) := o_5 (u1_8 hc_X12_findExit_16 rfl) rfl
theorem dX12_findExit_25 : decode cX12_findExit 25 = .ok (.irem, 1) := o_112 (u1_9 hc_X12_findExit_16 rfl) rfl
theorem dX12_findExit_26 : decode cX12_findExit 26 = .ok (.ifCond .ne 9, 3) := o_154 (u1_10 hc_X12_findExit_16 rfl) (s2_d (u2_d (u1_11 hc_X12_findExit_16 rfl) (u1_12 hc_X12_findExit_16 rfl) rfl) rfl) rfl
theorem dX12_findExit_29 : decode cX12_findExit 29 = .ok (.iload_n 2, 1) := o_28 (u1_13 hc_X12_findExit_16 rfl) rfl
theorem dX12_findExit_30 : decode cX12_findExit 30 = .ok (.iconst 1, 1) := o_4 (u1_14 hc_X12_findExit_16 rfl) rfl
theorem dX12_findExit_31 : decode cX12_findExit 31 = .ok (.iadd, 1) := o_96 (u1_15 hc_X12_findExit_16 rfl) rfl
theorem hc_X12_findExit_32 : ((bL cX12_findExit).drop 32).take 18 = [167, 0, 6, 28, 4, 100, 62, 16, 247, 54, 4, 3, 54, 5, 21, 5, 42, 180] := by decide +kernel
theorem dX12_findExit_32 : decode cX12_findExit 32 = .ok (.goto 6, 3) := o_167 (u1_0 hc_X12_findExit_32 rfl) (s2_d (u2_d (u1_1 hc_X12_findExit_32 rfl) (u1_2 hc_X12_findExit_32 rfl) rfl) rfl) rfl
theorem dX12_findExit_35 : decode cX12_findExit 35 = .ok (.iload_n 2, 1) := o_28 (u1_3 hc_X12_findExit_32 rfl) rfl
theorem dX12_findExit_36 : decode cX12_findExit 36 = .ok (.iconst 1, 1) := o_4 (u1_4 hc_X12_findExit_32 rfl) rfl
theorem dX12_findExit_37 : decode cX12_findExit 37 = .ok (.isub, 1) := o_100 (u1_5 hc_X12_findExit_32 rfl) rfl
theorem dX12_findExit_38 : decode cX12_findExit 38 = .ok (.istore_n 3, 1) := o_62 (u1_6 hc_X12_findExit_32 rfl) rfl
theorem dX12_findExit_39 : decode cX12_findExit 39 = .ok (.bipush (-9), 2) := o_16 (u1_7 hc_X12_findExit_32 rfl) (s1_d (u1_8 hc_X12_findExit_32 rfl) rfl) rfl
theorem dX12_findExit_41 : decode cX12_findExit 41 = .ok (.istore 4, 2) := o_54 (u1_9 hc_X12_findExit_32 rfl) (u1_10 hc_X12_findExit_32 rfl) rfl
theorem dX12_findExit_43 : decode cX12_findExit 43 = .ok (.iconst 0, 1) := o_3 (u1_11 hc_X12_findExit_32 rfl) rfl
theorem dX12_findExit_44 : decode cX12_findExit 44 = .ok (.istore 5, 2) := o_54 (u1_12 hc_X12_findExit_32 rfl) (u1_13 hc_X12_findExit_32 rfl) rfl
theorem dX12_findExit_46 : decode cX12_findExit 46 = .ok (.iload 5, 2) := o_21 (u1_14 hc_X12_findExit_32 rfl) (u1_15 hc_X12_findExit_32 rfl) rfl
theorem hc_X12_findExit_48 : ((bL cX12_findExit).drop 48).take 18 = [42, 180, 0, 202, 162, 0, 112, 42, 180, 0, 37, 21, 5, 51, 153, 0, 42, 42] := by decide +kernel
theorem dX12_findExit_48 : decode cX12_findExit 48 = .ok (.aload_n 0, 1) := o_42 (u1_0 hc_X12_findExit_48 rfl) rfl
theorem dX12_findExit_49 : decode cX12_findExit 49 = .ok (.getfield 202, 3) := o_180 (u1_1 hc_X12_findExit_48 rfl) (u2_d (u1_2 hc_X12_findExit_48 rfl) (u1_3 hc_X12_findExit_48 rfl) rfl) rfl
theorem dX12_findExit_52 : decode cX12_findExit 52 = .ok (.if_icmp .ge 112, 3) := o_162 (u1_4 hc_X12_findExit_48 rfl) (s2_d (u2_d (u1_5 hc_X12_findExit_48 rfl) (u1_6 hc_X12_findExit_48 rfl) rfl) rfl) rfl
theorem dX12_findExit_55 : decode cX12_findExit 55 = .ok (.aload_n 0, 1) := o_42 (u1_7 hc_X12_findExit_48 rfl) rfl
theorem dX12_findExit_56 : decode cX12_findExit 56 = .ok (.getfield 37, 3) := o_180 (u1_8 hc_X12_findExit_48 rfl) (u2_d (u1_9 hc_X12_findExit_48 rfl) (u1_10 hc_X12_findExit_48 rfl) rfl) rfl
theorem dX12_findExit_59 : decode cX12_findExit 59 = .ok (.iload 5, 2) := o_21 (u1_11 hc_X12_findExit_48 rfl) (u1_12 hc_X12_findExit_48 rfl) rfl
theorem dX12_findExit_61 : decode cX12_findExit 61 = .ok (.baload, 1) := o_51 (u1_13 hc_X12_findExit_48 rfl) rfl
theorem dX12_findExit_62 : decode cX12_findExit 62 = .ok (.ifCond .eq 42, 3) := o_153 (u1_14 hc_X12_findExit_48 rfl) (s2_d (u2_d (u1_15 hc_X12_findExit_48 rfl) (u1_16 hc_X12_findExit_48 rfl) rfl) rfl) rfl
theorem hc_X12_findExit_64 : ((bL cX12_findExit).drop 64).take 18 = [42, 42, 180, 0, 25, 21, 5, 46, 8, 160, 0, 31, 42, 180, 0, 28, 21, 5] := by decide +kernel
theorem dX12_findExit_65 : decode cX12_findExit 65 = .ok (.aload_n 0, 1) := o_42 (u1_1 hc_X12_findExit_64 rfl) rfl
theorem dX12_findExit_66 : decode cX12_findExit 66 = .ok (.getfield 25, 3) := o_180 (u1_2 hc_X12_findExit_64 rfl) (u2_d (u1_3 hc_X12_findExit_64 rfl) (u1_4 hc_X12_findExit_64 rfl) rfl) rfl
theorem dX12_findExit_69 : decode cX12_findExit 69 = .ok (.iload 5, 2) := o_21 (u1_5 hc_X12_findExit_64 rfl) (u1_6 hc_X12_findExit_64 rfl) rfl
theorem dX12_findExit_71 : decode cX12_findExit 71 = .ok (.iaload, 1) := o_46 (u1_7 hc_X12_findExit_64 rfl) rfl
theorem dX12_findExit_72 : decode cX12_findExit 72 = .ok (.iconst 5, 1) := o_8 (u1_8 hc_X12_findExit_64 rfl) rfl
theorem dX12_findExit_73 : decode cX12_findExit 73 = .ok (.if_icmp .ne 31, 3) := o_160 (u1_9 hc_X12_findExit_64 rfl) (s2_d (u2_d (u1_10 hc_X12_findExit_64 rfl) (u1_11 hc_X12_findExit_64 rfl) rfl) rfl) rfl
theorem dX12_findExit_76 : decode cX12_findExit 76 = .ok (.aload_n 0, 1) := o_42 (u1_12 hc_X12_findExit_64 rfl) rfl
theorem dX12_findExit_77 : decode cX12_findExit 77 = .ok (.getfield 28, 3) := o_180 (u1_13 hc_X12_findExit_64 rfl) (u2_d (u1_14 hc_X12_findExit_64 rfl) (u1_15 hc_X12_findExit_64 rfl) rfl) rfl
theorem hc_X12_findExit_80 : ((bL cX12_findExit).drop 80).take 18 = [21, 5, 46, 27, 160, 0, 20, 42, 180, 0, 34, 21, 5, 46, 28, 160, 0, 9] := by decide +kernel
theorem dX12_findExit_80 : decode cX12_findExit 80 = .ok (.iload 5, 2) := o_21 (u1_0 hc_X12_findExit_80 rfl) (u1_1 hc_X12_findExit_80 rfl) rfl
theorem dX12_findExit_82 : decode cX12_findExit 82 = .ok (.iaload, 1) := o_46 (u1_2 hc_X12_findExit_80 rfl) rfl
theorem dX12_findExit_83 : decode cX12_findExit 83 = .ok (.iload_n 1, 1) := o_27 (u1_3 hc_X12_findExit_80 rfl) rfl
theorem dX12_findExit_84 : decode cX12_findExit 84 = .ok (.if_icmp .ne 20, 3) := o_160 (u1_4 hc_X12_findExit_80 rfl) (s2_d (u2_d (u1_5 hc_X12_findExit_80 rfl) (u1_6 hc_X12_findExit_80 rfl) rfl) rfl) rfl
theorem dX12_findExit_87 : decode cX12_findExit 87 = .ok (.aload_n 0, 1) := o_42 (u1_7 hc_X12_findExit_80 rfl) rfl
theorem dX12_findExit_88 : decode cX12_findExit 88 = .ok (.getfield 34, 3) := o_180 (u1_8 hc_X12_findExit_80 rfl) (u2_d (u1_9 hc_X12_findExit_80 rfl) (u1_10 hc_X12_findExit_80 rfl) rfl) rfl
theorem dX12_findExit_91 : decode cX12_findExit 91 = .ok (.iload 5, 2) := o_21 (u1_11 hc_X12_findExit_80 rfl) (u1_12 hc_X12_findExit_80 rfl) rfl
theorem dX12_findExit_93 : decode cX12_findExit 93 = .ok (.iaload, 1) := o_46 (u1_13 hc_X12_findExit_80 rfl) rfl
theorem dX12_findExit_94 : decode cX12_findExit 94 = .ok (.iload_n 2, 1) := o_28 (u1_14 hc_X12_findExit_80 rfl) rfl
theorem dX12_findExit_95 : decode cX12_findExit 95 = .ok (.if_icmp .ne 9, 3) := o_160 (u1_15 hc_X12_findExit_80 rfl) (s2_d (u2_d (u1_16 hc_X12_findExit_80 rfl) (u1_17 hc_X12_findExit_80 rfl) rfl) rfl) rfl
theorem hc_X12_findExit_96 : ((bL cX12_findExit).drop 96).take 18 = [0, 9, 42, 21, 5, 181, 1, 13, 42, 180, 0, 37, 21, 5, 51, 153, 0, 47] := by decide +kernel
theorem dX12_findExit_98 : decode cX12_findExit 98 = .ok (.aload_n 0, 1) := o_42 (u1_2 hc_X12_findExit_96 rfl) rfl
theorem dX12_findExit_99 : decode cX12_findExit 99 = .ok (.iload 5, 2) := o_21 (u1_3 hc_X12_findExit_96 rfl) (u1_4 hc_X12_findExit_96 rfl) rfl
theorem dX12_findExit_101 : decode cX12_findExit 101 = .ok (.putfield 269, 3) := o_181 (u1_5 hc_X12_findExit_96 rfl) (u2_d (u1_6 hc_X12_findExit_96 rfl) (u1_7 hc_X12_findExit_96 rfl) rfl) rfl
theorem dX12_findExit_104 : decode cX12_findExit 104 = .ok (.aload_n 0, 1) := o_42 (u1_8 hc_X12_findExit_96 rfl) rfl
theorem dX12_findExit_105 : decode cX12_findExit 105 = .ok (.getfield 37, 3) := o_180 (u1_9 hc_X12_findExit_96 rfl) (u2_d (u1_10 hc_X12_findExit_96 rfl) (u1_11 hc_X12_findExit_96 rfl) rfl) rfl
theorem dX12_findExit_108 : decode cX12_findExit 108 = .ok (.iload 5, 2) := o_21 (u1_12 hc_X12_findExit_96 rfl) (u1_13 hc_X12_findExit_96 rfl) rfl
theorem dX12_findExit_110 : decode cX12_findExit 110 = .ok (.baload, 1) := o_51 (u1_14 hc_X12_findExit_96 rfl) rfl
theorem dX12_findExit_111 : decode cX12_findExit 111 = .ok (.ifCond .eq 47, 3) := o_153 (u1_15 hc_X12_findExit_96 rfl) (s2_d (u2_d (u1_16 hc_X12_findExit_96 rfl) (u1_17 hc_X12_findExit_96 rfl) rfl) rfl) rfl
theorem hc_X12_findExit_112 : ((bL cX12_findExit).drop 112).take 18 = [0, 47, 42, 180, 0, 25, 21, 5, 46, 8, 160, 0, 36, 42, 180, 0, 31, 21] := by decide +kernel
theorem dX12_findExit_114 : decode cX12_findExit 114 = .ok (.aload_n 0, 1) := o_42 (u1_2 hc_X12_findExit_112 rfl) rfl
theorem dX12_findExit_115 : decode cX12_findExit 115 = .ok (.getfield 25, 3) := o_180 (u1_3 hc_X12_findExit_112 rfl) (u2_d (u1_4 hc_X12_findExit_112 rfl) (u1_5 hc_X12_findExit_112 rfl) rfl) rfl
theorem dX12_findExit_118 : decode cX12_findExit 118 = .ok (.iload 5, 2) := o_21 (u1_6 hc_X12_findExit_112 rfl) (u1_7 hc_X12_findExit_112 rfl) rfl
theorem dX12_findExit_120 : decode cX12_findExit 120 = .ok (.iaload, 1) := o_46 (u1_8 hc_X12_findExit_112 rfl) rfl
theorem dX12_findExit_121 : decode cX12_findExit 121 = .ok (.iconst 5, 1) := o_8 (u1_9 hc_X12_findExit_112 rfl) rfl
theorem dX12_findExit_122 : decode cX12_findExit 122 = .ok (.if_icmp .ne 36, 3) := o_160 (u1_10 hc_X12_findExit_112 rfl) (s2_d (u2_d (u1_11 hc_X12_findExit_112 rfl) (u1_12 hc_X12_findExit_112 rfl) rfl) rfl) rfl
theorem dX12_findExit_125 : decode cX12_findExit 125 = .ok (.aload_n 0, 1) := o_42 (u1_13 hc_X12_findExit_112 rfl) rfl
theorem dX12_findExit_126 : decode cX12_findExit 126 = .ok (.getfield 31, 3) := o_180 (u1_14 hc_X12_findExit_112 rfl) (u2_d (u1_15 hc_X12_findExit_112 rfl) (u1_16 hc_X12_findExit_112 rfl) rfl) rfl
theorem hc_X12_findExit_128 : ((bL cX12_findExit).drop 128).take 18 = [31, 21, 5, 46, 27, 160, 0, 25, 42, 180, 0, 34, 21, 5, 46, 29, 160, 0] := by decide +kernel
theorem dX12_findExit_129 : decode cX12_findExit 129 = .ok (.iload 5, 2) := o_21 (u1_1 hc_X12_findExit_128 rfl) (u1_2 hc_X12_findExit_128 rfl) rfl
theorem dX12_findExit_131 : decode cX12_findExit 131 = .ok (.iaload, 1) := o_46 (u1_3 hc_X12_findExit_128 rfl) rfl
theorem dX12_findExit_132 : decode cX12_findExit 132 = .ok (.iload_n 1, 1) := o_27 (u1_4 hc_X12_findExit_128 rfl) rfl
theorem dX12_findExit_133 : decode cX12_findExit 133 = .ok (.if_icmp .ne 25, 3) := o_160 (u1_5 hc_X12_findExit_128 rfl) (s2_d (u2_d (u1_6 hc_X12_findExit_128 rfl) (u1_7 hc_X12_findExit_128 rfl) rfl) rfl) rfl
theorem dX12_findExit_136 : decode cX12_findExit 136 = .ok (.aload_n 0, 1) := o_42 (u1_8 hc_X12_findExit_128 rfl) rfl
theorem dX12_findExit_137 : decode cX12_findExit 137 = .ok (.getfield 34, 3) := o_180 (u1_9 hc_X12_findExit_128 rfl) (u2_d (u1_10 hc_X12_findExit_128 rfl) (u1_11 hc_X12_findExit_128 rfl) rfl) rfl
theorem dX12_findExit_140 : decode cX12_findExit 140 = .ok (.iload 5, 2) := o_21 (u1_12 hc_X12_findExit_128 rfl) (u1_13 hc_X12_findExit_128 rfl) rfl
theorem dX12_findExit_142 : decode cX12_findExit 142 = .ok (.iaload, 1) := o_46 (u1_14 hc_X12_findExit_128 rfl) rfl
theorem dX12_findExit_143 : decode cX12_findExit 143 = .ok (.iload_n 3, 1) := o_29 (u1_15 hc_X12_findExit_128 rfl) rfl
theorem hc_X12_findExit_144 : ((bL cX12_findExit).drop 144).take 18 = [160, 0, 14, 21, 4, 16, 247, 160, 0, 7, 21, 5, 54, 4, 132, 5, 1, 167] := by decide +kernel
theorem dX12_findExit_144 : decode cX12_findExit 144 = .ok (.if_icmp .ne 14, 3) := o_160 (u1_0 hc_X12_findExit_144 rfl) (s2_d (u2_d (u1_1 hc_X12_findExit_144 rfl) (u1_2 hc_X12_findExit_144 rfl) rfl) rfl) rfl
theorem dX12_findExit_147 : decode cX12_findExit 147 = .ok (.iload 4, 2) := o_21 (u1_3 hc_X12_findExit_144 rfl) (u1_4 hc_X12_findExit_144 rfl) rfl
theorem dX12_findExit_149 : decode cX12_findExit 149 = .ok (.bipush (-9), 2) := o_16 (u1_5 hc_X12_findExit_144 rfl) (s1_d (u1_6 hc_X12_findExit_144 rfl) rfl) rfl
theorem dX12_findExit_151 : decode cX12_findExit 151 = .ok (.if_icmp .ne 7, 3) := o_160 (u1_7 hc_X12_findExit_144 rfl) (s2_d (u2_d (u1_8 hc_X12_findExit_144 rfl) (u1_9 hc_X12_findExit_144 rfl) rfl) rfl) rfl
theorem dX12_findExit_154 : decode cX12_findExit 154 = .ok (.iload 5, 2) := o_21 (u1_10 hc_X12_findExit_144 rfl) (u1_11 hc_X12_findExit_144 rfl) rfl
theorem dX12_findExit_156 : decode cX12_findExit 156 = .ok (.istore 4, 2) := o_54 (u1_12 hc_X12_findExit_144 rfl) (u1_13 hc_X12_findExit_144 rfl) rfl
theorem dX12_findExit_158 : decode cX12_findExit 158 = .ok (.iinc 5 1, 3) := o_132 (u1_14 hc_X12_findExit_144 rfl) (u1_15 hc_X12_findExit_144 rfl) (s1_d (u1_16 hc_X12_findExit_144 rfl) rfl) rfl
theorem hc_X12_findExit_160 : ((bL cX12_findExit).drop 160).take 18 = [1, 167, 255, 141, 42, 180, 1, 13, 16, 247, 159, 0, 49, 42, 42, 180, 0, 31] := by decide +kernel
theorem dX12_findExit_161 : decode cX12_findExit 161 = .ok (.goto (-115), 3) := o_167 (u1_1 hc_X12_findExit_160 rfl) (s2_d (u2_d (u1_2 hc_X12_findExit_160 rfl) (u1_3 hc_X12_findExit_160 rfl) rfl) rfl) rfl
theorem dX12_findExit_164 : decode cX12_findExit 164 = .ok (.aload_n 0, 1) := o_42 (u1_4 hc_X12_findExit_160 rfl) rfl
theorem dX12_findExit_165 : decode cX12_findExit 165 = .ok (.getfield 269, 3) := o_180 (u1_5 hc_X12_findExit_160 rfl) (u2_d (u1_6 hc_X12_findExit_160 rfl) (u1_7 hc_X12_findExit_160 rfl) rfl) rfl
theorem dX12_findExit_168 : decode cX12_findExit 168 = .ok (.bipush (-9), 2) := o_16 (u1_8 hc_X12_findExit_160 rfl) (s1_d (u1_9 hc_X12_findExit_160 rfl) rfl) rfl
theorem dX12_findExit_170 : decode cX12_findExit 170 = .ok (.if_icmp .eq 49, 3) := o_159 (u1_10 hc_X12_findExit_160 rfl) (s2_d (u2_d (u1_11 hc_X12_findExit_160 rfl) (u1_12 hc_X12_findExit_160 rfl) rfl) rfl) rfl
theorem dX12_findExit_173 : decode cX12_findExit 173 = .ok (.aload_n 0, 1) := o_42 (u1_13 hc_X12_findExit_160 rfl) rfl
theorem dX12_findExit_174 : decode cX12_findExit 174 = .ok (.aload_n 0, 1) := o_42 (u1_14 hc_X12_findExit_160 rfl) rfl
theorem dX12_findExit_175 : decode cX12_findExit 175 = .ok (.getfield 31, 3) := o_180 (u1_15 hc_X12_findExit_160 rfl) (u2_d (u1_16 hc_X12_findExit_160 rfl) (u1_17 hc_X12_findExit_160 rfl) rfl) rfl
theorem hc_X12_findExit_176 : ((bL cX12_findExit).drop 176).take 18 = [0, 31, 42, 180, 1, 13, 46, 5, 182, 0, 184, 153, 0, 32, 42, 42, 180, 0] := by decide +kernel
theorem dX12_findExit_178 : decode cX12_findExit 178 = .ok (.aload_n 0, 1) := o_42 (u1_2 hc_X12_findExit_176 rfl) rfl
theorem dX12_findExit_179 : decode cX12_findExit 179 = .ok (.getfield 269, 3) := o_180 (u1_3 hc_X12_findExit_176 rfl) (u2_d (u1_4 hc_X12_findExit_176 rfl) (u1_5 hc_X12_findExit_176 rfl) rfl) rfl
theorem dX12_findExit_182 : decode cX12_findExit 182 = .ok (.iaload, 1) := o_46 (u1_6 hc_X12_findExit_176 rfl) rfl
theorem dX12_findExit_183 : decode cX12_findExit 183 = .ok (.iconst 2, 1) := o_5 (u1_7 hc_X12_findExit_176 rfl) rfl
theorem dX12_findExit_184 : decode cX12_findExit 184 = .ok (.invokevirtual 184, 3) := o_182 (u1_8 hc_X12_findExit_176 rfl) (u2_d (u1_9 hc_X12_findExit_176 rfl) (u1_10 hc_X12_findExit_176 rfl) rfl) rfl
theorem dX12_findExit_187 : decode cX12_findExit 187 = .ok (.ifCond .eq 32, 3) := o_153 (u1_11 hc_X12_findExit_176 rfl) (s2_d (u2_d (u1_12 hc_X12_findExit_176 rfl) (u1_13 hc_X12_findExit_176 rfl) rfl) rfl) rfl
theorem dX12_findExit_190 : decode cX12_findExit 190 = .ok (.aload_n 0, 1) := o_42 (u1_14 hc_X12_findExit_176 rfl) rfl
theorem dX12_findExit_191 : decode cX12_findExit 191 = .ok (.aload_n 0, 1) := o_42 (u1_15 hc_X12_findExit_176 rfl) rfl
theorem hc_X12_findExit_192 : ((bL cX12_findExit).drop 192).take 18 = [180, 0, 31, 42, 180, 1, 13, 46, 181, 1, 10, 42, 42, 42, 180, 1, 10, 27] := by decide +kernel
theorem dX12_findExit_192 : decode cX12_findExit 192 = .ok (.getfield 31, 3) := o_180 (u1_0 hc_X12_findExit_192 rfl) (u2_d (u1_1 hc_X12_findExit_192 rfl) (u1_2 hc_X12_findExit_192 rfl) rfl) rfl
theorem dX12_findExit_195 : decode cX12_findExit 195 = .ok (.aload_n 0, 1) := o_42 (u1_3 hc_X12_findExit_192 rfl) rfl
theorem dX12_findExit_196 : decode cX12_findExit 196 = .ok (.getfield 269, 3) := o_180 (u1_4 hc_X12_findExit_192 rfl) (u2_d (u1_5 hc_X12_findExit_192 rfl) (u1_6 hc_X12_findExit_192 rfl) rfl) rfl
theorem dX12_findExit_199 : decode cX12_findExit 199 = .ok (.iaload, 1) := o_46 (u1_7 hc_X12_findExit_192 rfl) rfl
theorem dX12_findExit_200 : decode cX12_findExit 200 = .ok (.putfield 266, 3) := o_181 (u1_8 hc_X12_findExit_192 rfl) (u2_d (u1_9 hc_X12_findExit_192 rfl) (u1_10 hc_X12_findExit_192 rfl) rfl) rfl
theorem dX12_findExit_203 : decode cX12_findExit 203 = .ok (.aload_n 0, 1) := o_42 (u1_11 hc_X12_findExit_192 rfl) rfl
theorem dX12_findExit_204 : decode cX12_findExit 204 = .ok (.aload_n 0, 1) := o_42 (u1_12 hc_X12_findExit_192 rfl) rfl
theorem dX12_findExit_205 : decode cX12_findExit 205 = .ok (.aload_n 0, 1) := o_42 (u1_13 hc_X12_findExit_192 rfl) rfl
theorem dX12_findExit_206 : decode cX12_findExit 206 = .ok (.getfield 266, 3) := o_180 (u1_14 hc_X12_findExit_192 rfl) (u2_d (u1_15 hc_X12_findExit_192 rfl) (u1_16 hc_X12_findExit_192 rfl) rfl) rfl
theorem hc_X12_findExit_208 : ((bL cX12_findExit).drop 208).take 18 = [10, 27, 182, 1, 20, 181, 1, 7, 167, 0, 57, 42, 180, 1, 13, 16, 247, 159] := by decide +kernel
theorem dX12_findExit_209 : decode cX12_findExit 209 = .ok (.iload_n 1, 1) := o_27 (u1_1 hc_X12_findExit_208 rfl) rfl
theorem dX12_findExit_210 : decode cX12_findExit 210 = .ok (.invokevirtual 276, 3) := o_182 (u1_2 hc_X12_findExit_208 rfl) (u2_d (u1_3 hc_X12_findExit_208 rfl) (u1_4 hc_X12_findExit_208 rfl) rfl) rfl
theorem dX12_findExit_213 : decode cX12_findExit 213 = .ok (.putfield 263, 3) := o_181 (u1_5 hc_X12_findExit_208 rfl) (u2_d (u1_6 hc_X12_findExit_208 rfl) (u1_7 hc_X12_findExit_208 rfl) rfl) rfl
theorem dX12_findExit_216 : decode cX12_findExit 216 = .ok (.goto 57, 3) := o_167 (u1_8 hc_X12_findExit_208 rfl) (s2_d (u2_d (u1_9 hc_X12_findExit_208 rfl) (u1_10 hc_X12_findExit_208 rfl) rfl) rfl) rfl
theorem dX12_findExit_219 : decode cX12_findExit 219 = .ok (.aload_n 0, 1) := o_42 (u1_11 hc_X12_findExit_208 rfl) rfl
theorem dX12_findExit_220 : decode cX12_findExit 220 = .ok (.getfield 269, 3) := o_180 (u1_12 hc_X12_findExit_208 rfl) (u2_d (u1_13 hc_X12_findExit_208 rfl) (u1_14 hc_X12_findExit_208 rfl) rfl) rfl
theorem dX12_findExit_223 : decode cX12_findExit 223 = .ok (.bipush (-9), 2) := o_16 (u1_15 hc_X12_findExit_208 rfl) (s1_d (u1_16 hc_X12_findExit_208 rfl) rfl) rfl
theorem hc_X12_findExit_224 : ((bL cX12_findExit).drop 224).take 18 = [247, 159, 0, 19, 42, 42, 180, 0, 31, 42, 180, 1, 13, 46, 181, 1, 7, 167] := by decide +kernel
theorem dX12_findExit_225 : decode cX12_findExit 225 = .ok (.if_icmp .eq 19, 3) := o_159 (u1_1 hc_X12_findExit_224 rfl) (s2_d (u2_d (u1_2 hc_X12_findExit_224 rfl) (u1_3 hc_X12_findExit_224 rfl) rfl) rfl) rfl
theorem dX12_findExit_228 : decode cX12_findExit 228 = .ok (.aload_n 0, 1) := o_42 (u1_4 hc_X12_findExit_224 rfl) rfl
theorem dX12_findExit_229 : decode cX12_findExit 229 = .ok (.aload_n 0, 1) := o_42 (u1_5 hc_X12_findExit_224 rfl) rfl
theorem dX12_findExit_230 : decode cX12_findExit 230 = .ok (.getfield 31, 3) := o_180 (u1_6 hc_X12_findExit_224 rfl) (u2_d (u1_7 hc_X12_findExit_224 rfl) (u1_8 hc_X12_findExit_224 rfl) rfl) rfl
theorem dX12_findExit_233 : decode cX12_findExit 233 = .ok (.aload_n 0, 1) := o_42 (u1_9 hc_X12_findExit_224 rfl) rfl
theorem dX12_findExit_234 : decode cX12_findExit 234 = .ok (.getfield 269, 3) := o_180 (u1_10 hc_X12_findExit_224 rfl) (u2_d (u1_11 hc_X12_findExit_224 rfl) (u1_12 hc_X12_findExit_224 rfl) rfl) rfl
theorem dX12_findExit_237 : decode cX12_findExit 237 = .ok (.iaload, 1) := o_46 (u1_13 hc_X12_findExit_224 rfl) rfl
theorem dX12_findExit_238 : decode cX12_findExit 238 = .ok (.putfield 263, 3) := o_181 (u1_14 hc_X12_findExit_224 rfl) (u2_d (u1_15 hc_X12_findExit_224 rfl) (u1_16 hc_X12_findExit_224 rfl) rfl) rfl
theorem hc_X12_findExit_240 : ((bL cX12_findExit).drop 240).take 18 = [7, 167, 0, 32, 21, 4, 16, 247, 159, 0, 25, 42, 21, 4, 181, 1, 13, 42] := by decide +kernel
theorem dX12_findExit_241 : decode cX12_findExit 241 = .ok (.goto 32, 3) := o_167 (u1_1 hc_X12_findExit_240 rfl) (s2_d (u2_d (u1_2 hc_X12_findExit_240 rfl) (u1_3 hc_X12_findExit_240 rfl) rfl) rfl) rfl
theorem dX12_findExit_244 : decode cX12_findExit 244 = .ok (.iload 4, 2) := o_21 (u1_4 hc_X12_findExit_240 rfl) (u1_5 hc_X12_findExit_240 rfl) rfl
theorem dX12_findExit_246 : decode cX12_findExit 246 = .ok (.bipush (-9), 2) := o_16 (u1_6 hc_X12_findExit_240 rfl) (s1_d (u1_7 hc_X12_findExit_240 rfl) rfl) rfl
theorem dX12_findExit_248 : decode cX12_findExit 248 = .ok (.if_icmp .eq 25, 3) := o_159 (u1_8 hc_X12_findExit_240 rfl) (s2_d (u2_d (u1_9 hc_X12_findExit_240 rfl) (u1_10 hc_X12_findExit_240 rfl) rfl) rfl) rfl
theorem dX12_findExit_251 : decode cX12_findExit 251 = .ok (.aload_n 0, 1) := o_42 (u1_11 hc_X12_findExit_240 rfl) rfl
theorem dX12_findExit_252 : decode cX12_findExit 252 = .ok (.iload 4, 2) := o_21 (u1_12 hc_X12_findExit_240 rfl) (u1_13 hc_X12_findExit_240 rfl) rfl
theorem dX12_findExit_254 : decode cX12_findExit 254 = .ok (.putfield 269, 3) := o_181 (u1_14 hc_X12_findExit_240 rfl) (u2_d (u1_15 hc_X12_findExit_240 rfl) (u1_16 hc_X12_findExit_240 rfl) rfl) rfl
theorem hc_X12_findExit_256 : ((bL cX12_findExit).drop 256).take 18 = [13, 42, 4, 181, 1, 16, 42, 42, 180, 0, 28, 21, 4, 46, 181, 1, 7, 42] := by decide +kernel
theorem dX12_findExit_257 : decode cX12_findExit 257 = .ok (.aload_n 0, 1) := o_42 (u1_1 hc_X12_findExit_256 rfl) rfl
theorem dX12_findExit_258 : decode cX12_findExit 258 = .ok (.iconst 1, 1) := o_4 (u1_2 hc_X12_findExit_256 rfl) rfl
theorem dX12_findExit_259 : decode cX12_findExit 259 = .ok (.putfield 272, 3) := o_181 (u1_3 hc_X12_findExit_256 rfl) (u2_d (u1_4 hc_X12_findExit_256 rfl) (u1_5 hc_X12_findExit_256 rfl) rfl) rfl
theorem dX12_findExit_262 : decode cX12_findExit 262 = .ok (.aload_n 0, 1) := o_42 (u1_6 hc_X12_findExit_256 rfl) rfl
theorem dX12_findExit_263 : decode cX12_findExit 263 = .ok (.aload_n 0, 1) := o_42 (u1_7 hc_X12_findExit_256 rfl) rfl
theorem dX12_findExit_264 : decode cX12_findExit 264 = .ok (.getfield 28, 3) := o_180 (u1_8 hc_X12_findExit_256 rfl) (u2_d (u1_9 hc_X12_findExit_256 rfl) (u1_10 hc_X12_findExit_256 rfl) rfl) rfl
theorem dX12_findExit_267 : decode cX12_findExit 267 = .ok (.iload 4, 2) := o_21 (u1_11 hc_X12_findExit_256 rfl) (u1_12 hc_X12_findExit_256 rfl) rfl
theorem dX12_findExit_269 : decode cX12_findExit 269 = .ok (.iaload, 1) := o_46 (u1_13 hc_X12_findExit_256 rfl) rfl
theorem dX12_findExit_270 : decode cX12_findExit 270 = .ok (.putfield 263, 3) := o_181 (u1_14 hc_X12_findExit_256 rfl) (u2_d (u1_15 hc_X12_findExit_256 rfl) (u1_16 hc_X12_findExit_256 rfl) rfl) rfl
theorem hc_X12_findExit_272 : ((bL cX12_findExit).drop 272).take 18 = [7, 42, 180, 1, 13, 16, 247, 159, 0, 7, 4, 167, 0, 4, 3, 172] := by decide +kernel
theorem dX12_findExit_273 : decode cX12_findExit 273 = .ok (.aload_n 0, 1) := o_42 (u1_1 hc_X12_findExit_272 rfl) rfl
theorem dX12_findExit_274 : decode cX12_findExit 274 = .ok (.getfield 269, 3) := o_180 (u1_2 hc_X12_findExit_272 rfl) (u2_d (u1_3 hc_X12_findExit_272 rfl) (u1_4 hc_X12_findExit_272 rfl) rfl) rfl
theorem dX12_findExit_277 : decode cX12_findExit 277 = .ok (.bipush (-9), 2) := o_16 (u1_5 hc_X12_findExit_272 rfl) (s1_d (u1_6 hc_X12_findExit_272 rfl) rfl) rfl
theorem dX12_findExit_279 : decode cX12_findExit 279 = .ok (.if_icmp .eq 7, 3) := o_159 (u1_7 hc_X12_findExit_272 rfl) (s2_d (u2_d (u1_8 hc_X12_findExit_272 rfl) (u1_9 hc_X12_findExit_272 rfl) rfl) rfl) rfl
theorem dX12_findExit_282 : decode cX12_findExit 282 = .ok (.iconst 1, 1) := o_4 (u1_10 hc_X12_findExit_272 rfl) rfl
theorem dX12_findExit_283 : decode cX12_findExit 283 = .ok (.goto 4, 3) := o_167 (u1_11 hc_X12_findExit_272 rfl) (s2_d (u2_d (u1_12 hc_X12_findExit_272 rfl) (u1_13 hc_X12_findExit_272 rfl) rfl) rfl) rfl
theorem dX12_findExit_286 : decode cX12_findExit 286 = .ok (.iconst 0, 1) := o_3 (u1_14 hc_X12_findExit_272 rfl) rfl
theorem dX12_findExit_287 : decode cX12_findExit 287 = .ok (.ireturn, 1) := o_172 (u1_15 hc_X12_findExit_272 rfl) rfl
theorem hc_X12_otherSide_0 : ((bL cX12_otherSide).drop 0).take 18 = [3, 62, 29, 42, 180, 0, 202, 162, 0, 55, 42, 180, 0, 37, 29, 51, 153, 0] := by decide +kernel
theorem dX12_otherSide_0 : decode cX12_otherSide 0 = .ok (.iconst 0, 1) := o_3 (u1_0 hc_X12_otherSide_0 rfl) rfl
theorem dX12_otherSide_1 : decode cX12_otherSide 1 = .ok (.istore_n 3, 1) := o_62 (u1_1 hc_X12_otherSide_0 rfl) rfl
theorem dX12_otherSide_2 : decode cX12_otherSide 2 = .ok (.iload_n 3, 1) := o_29 (u1_2 hc_X12_otherSide_0 rfl) rfl
theorem dX12_otherSide_3 : decode cX12_otherSide 3 = .ok (.aload_n 0, 1) := o_42 (u1_3 hc_X12_otherSide_0 rfl) rfl
theorem dX12_otherSide_4 : decode cX12_otherSide 4 = .ok (.getfield 202, 3) := o_180 (u1_4 hc_X12_otherSide_0 rfl) (u2_d (u1_5 hc_X12_otherSide_0 rfl) (u1_6 hc_X12_otherSide_0 rfl) rfl) rfl
theorem dX12_otherSide_7 : decode cX12_otherSide 7 = .ok (.if_icmp .ge 55, 3) := o_162 (u1_7 hc_X12_otherSide_0 rfl) (s2_d (u2_d (u1_8 hc_X12_otherSide_0 rfl) (u1_9 hc_X12_otherSide_0 rfl) rfl) rfl) rfl
theorem dX12_otherSide_10 : decode cX12_otherSide 10 = .ok (.aload_n 0, 1) := o_42 (u1_10 hc_X12_otherSide_0 rfl) rfl
theorem dX12_otherSide_11 : decode cX12_otherSide 11 = .ok (.getfield 37, 3) := o_180 (u1_11 hc_X12_otherSide_0 rfl) (u2_d (u1_12 hc_X12_otherSide_0 rfl) (u1_13 hc_X12_otherSide_0 rfl) rfl) rfl
theorem dX12_otherSide_14 : decode cX12_otherSide 14 = .ok (.iload_n 3, 1) := o_29 (u1_14 hc_X12_otherSide_0 rfl) rfl
theorem dX12_otherSide_15 : decode cX12_otherSide 15 = .ok (.baload, 1) := o_51 (u1_15 hc_X12_otherSide_0 rfl) rfl
theorem hc_X12_otherSide_16 : ((bL cX12_otherSide).drop 16).take 18 = [153, 0, 40, 42, 180, 0, 25, 29, 46, 8, 160, 0, 30, 42, 180, 0, 31, 29] := by decide +kernel
theorem dX12_otherSide_16 : decode cX12_otherSide 16 = .ok (.ifCond .eq 40, 3) := o_153 (u1_0 hc_X12_otherSide_16 rfl) (s2_d (u2_d (u1_1 hc_X12_otherSide_16 rfl) (u1_2 hc_X12_otherSide_16 rfl) rfl) rfl) rfl
theorem dX12_otherSide_19 : decode cX12_otherSide 19 = .ok (.aload_n 0, 1) := o_42 (u1_3 hc_X12_otherSide_16 rfl) rfl
theorem dX12_otherSide_20 : decode cX12_otherSide 20 = .ok (.getfield 25, 3) := o_180 (u1_4 hc_X12_otherSide_16 rfl) (u2_d (u1_5 hc_X12_otherSide_16 rfl) (u1_6 hc_X12_otherSide_16 rfl) rfl) rfl
theorem dX12_otherSide_23 : decode cX12_otherSide 23 = .ok (.iload_n 3, 1) := o_29 (u1_7 hc_X12_otherSide_16 rfl) rfl
theorem dX12_otherSide_24 : decode cX12_otherSide 24 = .ok (.iaload, 1) := o_46 (u1_8 hc_X12_otherSide_16 rfl) rfl
theorem dX12_otherSide_25 : decode cX12_otherSide 25 = .ok (.iconst 5, 1) := o_8 (u1_9 hc_X12_otherSide_16 rfl) rfl
theorem dX12_otherSide_26 : decode cX12_otherSide 26 = .ok (.if_icmp .ne 30, 3) := o_160 (u1_10 hc_X12_otherSide_16 rfl) (s2_d (u2_d (u1_11 hc_X12_otherSide_16 rfl) (u1_12 hc_X12_otherSide_16 rfl) rfl) rfl) rfl
theorem dX12_otherSide_29 : decode cX12_otherSide 29 = .ok (.aload_n 0, 1) := o_42 (u1_13 hc_X12_otherSide_16 rfl) rfl
theorem dX12_otherSide_30 : decode cX12_otherSide 30 = .ok (.getfield 31, 3) := o_180 (u1_14 hc_X12_otherSide_16 rfl) (u2_d (u1_15 hc_X12_otherSide_16 rfl) (u1_16 hc_X12_otherSide_16 rfl) rfl) rfl
theorem hc_X12_otherSide_32 : ((bL cX12_otherSide).drop 32).take 18 = [31, 29, 46, 27, 160, 0, 20, 42, 180, 0, 28, 29, 46, 28, 159, 0, 10, 42] := by decide +kernel
theorem dX12_otherSide_33 : decode cX12_otherSide 33 = .ok (.iload_n 3, 1) := o_29 (u1_1 hc_X12_otherSide_32 rfl) rfl
theorem dX12_otherSide_34 : decode cX12_otherSide 34 = .ok (.iaload, 1) := o_46 (u1_2 hc_X12_otherSide_32 rfl) rfl
theorem dX12_otherSide_35 : decode cX12_otherSide 35 = .ok (.iload_n 1, 1) := o_27 (u1_3 hc_X12_otherSide_32 rfl) rfl
theorem dX12_otherSide_36 : decode cX12_otherSide 36 = .ok (.if_icmp .ne 20, 3) := o_160 (u1_4 hc_X12_otherSide_32 rfl) (s2_d (u2_d (u1_5 hc_X12_otherSide_32 rfl) (u1_6 hc_X12_otherSide_32 rfl) rfl) rfl) rfl
theorem dX12_otherSide_39 : decode cX12_otherSide 39 = .ok (.aload_n 0, 1) := o_42 (u1_7 hc_X12_otherSide_32 rfl) rfl
theorem dX12_otherSide_40 : decode cX12_otherSide 40 = .ok (.getfield 28, 3) := o_180 (u1_8 hc_X12_otherSide_32 rfl) (u2_d (u1_9 hc_X12_otherSide_32 rfl) (u1_10 hc_X12_otherSide_32 rfl) rfl) rfl
theorem dX12_otherSide_43 : decode cX12_otherSide 43 = .ok (.iload_n 3, 1) := o_29 (u1_11 hc_X12_otherSide_32 rfl) rfl
theorem dX12_otherSide_44 : decode cX12_otherSide 44 = .ok (.iaload, 1) := o_46 (u1_12 hc_X12_otherSide_32 rfl) rfl
theorem dX12_otherSide_45 : decode cX12_otherSide 45 = .ok (.iload_n 2, 1) := o_28 (u1_13 hc_X12_otherSide_32 rfl) rfl
theorem dX12_otherSide_46 : decode cX12_otherSide 46 = .ok (.if_icmp .eq 10, 3) := o_159 (u1_14 hc_X12_otherSide_32 rfl) (s2_d (u2_d (u1_15 hc_X12_otherSide_32 rfl) (u1_16 hc_X12_otherSide_32 rfl) rfl) rfl) rfl
theorem hc_X12_otherSide_48 : ((bL cX12_otherSide).drop 48).take 18 = [10, 42, 180, 0, 28, 29, 46, 172, 132, 3, 1, 167, 255, 199, 16, 247, 172] := by decide +kernel
theorem dX12_otherSide_49 : decode cX12_otherSide 49 = .ok (.aload_n 0, 1) := o_42 (u1_1 hc_X12_otherSide_48 rfl) rfl
theorem dX12_otherSide_50 : decode cX12_otherSide 50 = .ok (.getfield 28, 3) := o_180 (u1_2 hc_X12_otherSide_48 rfl) (u2_d (u1_3 hc_X12_otherSide_48 rfl) (u1_4 hc_X12_otherSide_48 rfl) rfl) rfl
theorem dX12_otherSide_53 : decode cX12_otherSide 53 = .ok (.iload_n 3, 1) := o_29 (u1_5 hc_X12_otherSide_48 rfl) rfl
theorem dX12_otherSide_54 : decode cX12_otherSide 54 = .ok (.iaload, 1) := o_46 (u1_6 hc_X12_otherSide_48 rfl) rfl
theorem dX12_otherSide_55 : decode cX12_otherSide 55 = .ok (.ireturn, 1) := o_172 (u1_7 hc_X12_otherSide_48 rfl) rfl
theorem dX12_otherSide_56 : decode cX12_otherSide 56 = .ok (.iinc 3 1, 3) := o_132 (u1_8 hc_X12_otherSide_48 rfl) (u1_9 hc_X12_otherSide_48 rfl) (s1_d (u1_10 hc_X12_otherSide_48 rfl) rfl) rfl
theorem dX12_otherSide_59 : decode cX12_otherSide 59 = .ok (.goto (-57), 3) := o_167 (u1_11 hc_X12_otherSide_48 rfl) (s2_d (u2_d (u1_12 hc_X12_otherSide_48 rfl) (u1_13 hc_X12_otherSide_48 rfl) rfl) rfl) rfl
theorem dX12_otherSide_62 : decode cX12_otherSide 62 = .ok (.bipush (-9), 2) := o_16 (u1_14 hc_X12_otherSide_48 rfl) (s1_d (u1_15 hc_X12_otherSide_48 rfl) rfl) rfl
theorem hc_X12_otherSide_64 : ((bL cX12_otherSide).drop 64).take 18 = [172] := by decide +kernel
theorem dX12_otherSide_64 : decode cX12_otherSide 64 = .ok (.ireturn, 1) := o_172 (u1_0 hc_X12_otherSide_64 rfl) rfl
theorem hc_X12_isSide_0 : ((bL cX12_isSide).drop 0).take 18 = [3, 62, 29, 42, 180, 0, 202, 162, 0, 50, 42, 180, 0, 37, 29, 51, 153, 0] := by decide +kernel
theorem dX12_isSide_0 : decode cX12_isSide 0 = .ok (.iconst 0, 1) := o_3 (u1_0 hc_X12_isSide_0 rfl) rfl
theorem dX12_isSide_1 : decode cX12_isSide 1 = .ok (.istore_n 3, 1) := o_62 (u1_1 hc_X12_isSide_0 rfl) rfl
theorem dX12_isSide_2 : decode cX12_isSide 2 = .ok (.iload_n 3, 1) := o_29 (u1_2 hc_X12_isSide_0 rfl) rfl
theorem dX12_isSide_3 : decode cX12_isSide 3 = .ok (.aload_n 0, 1) := o_42 (u1_3 hc_X12_isSide_0 rfl) rfl
theorem dX12_isSide_4 : decode cX12_isSide 4 = .ok (.getfield 202, 3) := o_180 (u1_4 hc_X12_isSide_0 rfl) (u2_d (u1_5 hc_X12_isSide_0 rfl) (u1_6 hc_X12_isSide_0 rfl) rfl) rfl
theorem dX12_isSide_7 : decode cX12_isSide 7 = .ok (.if_icmp .ge 50, 3) := o_162 (u1_7 hc_X12_isSide_0 rfl) (s2_d (u2_d (u1_8 hc_X12_isSide_0 rfl) (u1_9 hc_X12_isSide_0 rfl) rfl) rfl) rfl
theorem dX12_isSide_10 : decode cX12_isSide 10 = .ok (.aload_n 0, 1) := o_42 (u1_10 hc_X12_isSide_0 rfl) rfl
theorem dX12_isSide_11 : decode cX12_isSide 11 = .ok (.getfield 37, 3) := o_180 (u1_11 hc_X12_isSide_0 rfl) (u2_d (u1_12 hc_X12_isSide_0 rfl) (u1_13 hc_X12_isSide_0 rfl) rfl) rfl
theorem dX12_isSide_14 : decode cX12_isSide 14 = .ok (.iload_n 3, 1) := o_29 (u1_14 hc_X12_isSide_0 rfl) rfl
theorem dX12_isSide_15 : decode cX12_isSide 15 = .ok (.baload, 1) := o_51 (u1_15 hc_X12_isSide_0 rfl) rfl
theorem hc_X12_isSide_16 : ((bL cX12_isSide).drop 16).take 18 = [153, 0, 35, 42, 180, 0, 25, 29, 46, 8, 160, 0, 25, 42, 180, 0, 31, 29] := by decide +kernel
theorem dX12_isSide_16 : decode cX12_isSide 16 = .ok (.ifCond .eq 35, 3) := o_153 (u1_0 hc_X12_isSide_16 rfl) (s2_d (u2_d (u1_1 hc_X12_isSide_16 rfl) (u1_2 hc_X12_isSide_16 rfl) rfl) rfl) rfl
theorem dX12_isSide_19 : decode cX12_isSide 19 = .ok (.aload_n 0, 1) := o_42 (u1_3 hc_X12_isSide_16 rfl) rfl
theorem dX12_isSide_20 : decode cX12_isSide 20 = .ok (.getfield 25, 3) := o_180 (u1_4 hc_X12_isSide_16 rfl) (u2_d (u1_5 hc_X12_isSide_16 rfl) (u1_6 hc_X12_isSide_16 rfl) rfl) rfl
theorem dX12_isSide_23 : decode cX12_isSide 23 = .ok (.iload_n 3, 1) := o_29 (u1_7 hc_X12_isSide_16 rfl) rfl
theorem dX12_isSide_24 : decode cX12_isSide 24 = .ok (.iaload, 1) := o_46 (u1_8 hc_X12_isSide_16 rfl) rfl
theorem dX12_isSide_25 : decode cX12_isSide 25 = .ok (.iconst 5, 1) := o_8 (u1_9 hc_X12_isSide_16 rfl) rfl
theorem dX12_isSide_26 : decode cX12_isSide 26 = .ok (.if_icmp .ne 25, 3) := o_160 (u1_10 hc_X12_isSide_16 rfl) (s2_d (u2_d (u1_11 hc_X12_isSide_16 rfl) (u1_12 hc_X12_isSide_16 rfl) rfl) rfl) rfl
theorem dX12_isSide_29 : decode cX12_isSide 29 = .ok (.aload_n 0, 1) := o_42 (u1_13 hc_X12_isSide_16 rfl) rfl
theorem dX12_isSide_30 : decode cX12_isSide 30 = .ok (.getfield 31, 3) := o_180 (u1_14 hc_X12_isSide_16 rfl) (u2_d (u1_15 hc_X12_isSide_16 rfl) (u1_16 hc_X12_isSide_16 rfl) rfl) rfl
theorem hc_X12_isSide_32 : ((bL cX12_isSide).drop 32).take 18 = [31, 29, 46, 27, 160, 0, 15, 42, 180, 0, 28, 29, 46, 28, 160, 0, 5, 4] := by decide +kernel
theorem dX12_isSide_33 : decode cX12_isSide 33 = .ok (.iload_n 3, 1) := o_29 (u1_1 hc_X12_isSide_32 rfl) rfl
theorem dX12_isSide_34 : decode cX12_isSide 34 = .ok (.iaload, 1) := o_46 (u1_2 hc_X12_isSide_32 rfl) rfl
theorem dX12_isSide_35 : decode cX12_isSide 35 = .ok (.iload_n 1, 1) := o_27 (u1_3 hc_X12_isSide_32 rfl) rfl
theorem dX12_isSide_36 : decode cX12_isSide 36 = .ok (.if_icmp .ne 15, 3) := o_160 (u1_4 hc_X12_isSide_32 rfl) (s2_d (u2_d (u1_5 hc_X12_isSide_32 rfl) (u1_6 hc_X12_isSide_32 rfl) rfl) rfl) rfl
theorem dX12_isSide_39 : decode cX12_isSide 39 = .ok (.aload_n 0, 1) := o_42 (u1_7 hc_X12_isSide_32 rfl) rfl
theorem dX12_isSide_40 : decode cX12_isSide 40 = .ok (.getfield 28, 3) := o_180 (u1_8 hc_X12_isSide_32 rfl) (u2_d (u1_9 hc_X12_isSide_32 rfl) (u1_10 hc_X12_isSide_32 rfl) rfl) rfl
theorem dX12_isSide_43 : decode cX12_isSide 43 = .ok (.iload_n 3, 1) := o_29 (u1_11 hc_X12_isSide_32 rfl) rfl
theorem dX12_isSide_44 : decode cX12_isSide 44 = .ok (.iaload, 1) := o_46 (u1_12 hc_X12_isSide_32 rfl) rfl
theorem dX12_isSide_45 : decode cX12_isSide 45 = .ok (.iload_n 2, 1) := o_28 (u1_13 hc_X12_isSide_32 rfl) rfl
theorem dX12_isSide_46 : decode cX12_isSide 46 = .ok (.if_icmp .ne 5, 3) := o_160 (u1_14 hc_X12_isSide_32 rfl) (s2_d (u2_d (u1_15 hc_X12_isSide_32 rfl) (u1_16 hc_X12_isSide_32 rfl) rfl) rfl) rfl
theorem hc_X12_isSide_48 : ((bL cX12_isSide).drop 48).take 18 = [5, 4, 172, 132, 3, 1, 167, 255, 204, 3, 172] := by decide +kernel
theorem dX12_isSide_49 : decode cX12_isSide 49 = .ok (.iconst 1, 1) := o_4 (u1_1 hc_X12_isSide_48 rfl) rfl
theorem dX12_isSide_50 : decode cX12_isSide 50 = .ok (.ireturn, 1) := o_172 (u1_2 hc_X12_isSide_48 rfl) rfl
theorem dX12_isSide_51 : decode cX12_isSide 51 = .ok (.iinc 3 1, 3) := o_132 (u1_3 hc_X12_isSide_48 rfl) (u1_4 hc_X12_isSide_48 rfl) (s1_d (u1_5 hc_X12_isSide_48 rfl) rfl) rfl
theorem dX12_isSide_54 : decode cX12_isSide 54 = .ok (.goto (-52), 3) := o_167 (u1_6 hc_X12_isSide_48 rfl) (s2_d (u2_d (u1_7 hc_X12_isSide_48 rfl) (u1_8 hc_X12_isSide_48 rfl) rfl) rfl) rfl
theorem dX12_isSide_57 : decode cX12_isSide 57 = .ok (.iconst 0, 1) := o_3 (u1_9 hc_X12_isSide_48 rfl) rfl
theorem dX12_isSide_58 : decode cX12_isSide 58 = .ok (.ireturn, 1) := o_172 (u1_10 hc_X12_isSide_48 rfl) rfl
theorem hc_X12_exit_0 : ((bL cX12_exit).drop 0).take 18 = [42, 27, 182, 0, 180, 153, 0, 27, 28, 133, 9, 20, 0, 197, 184, 0, 166, 153] := by decide +kernel
theorem dX12_exit_0 : decode cX12_exit 0 = .ok (.aload_n 0, 1) := o_42 (u1_0 hc_X12_exit_0 rfl) rfl
theorem dX12_exit_1 : decode cX12_exit 1 = .ok (.iload_n 1, 1) := o_27 (u1_1 hc_X12_exit_0 rfl) rfl
theorem dX12_exit_2 : decode cX12_exit 2 = .ok (.invokevirtual 180, 3) := o_182 (u1_2 hc_X12_exit_0 rfl) (u2_d (u1_3 hc_X12_exit_0 rfl) (u1_4 hc_X12_exit_0 rfl) rfl) rfl
theorem dX12_exit_5 : decode cX12_exit 5 = .ok (.ifCond .eq 27, 3) := o_153 (u1_5 hc_X12_exit_0 rfl) (s2_d (u2_d (u1_6 hc_X12_exit_0 rfl) (u1_7 hc_X12_exit_0 rfl) rfl) rfl) rfl
theorem dX12_exit_8 : decode cX12_exit 8 = .ok (.iload_n 2, 1) := o_28 (u1_8 hc_X12_exit_0 rfl) rfl
theorem dX12_exit_9 : decode cX12_exit 9 = .ok (.i2l, 1) := o_133 (u1_9 hc_X12_exit_0 rfl) rfl
theorem dX12_exit_10 : decode cX12_exit 10 = .ok (.lconst 0, 1) := o_9 (u1_10 hc_X12_exit_0 rfl) rfl
theorem dX12_exit_11 : decode cX12_exit 11 = .ok (.ldc2_w 197, 3) := o_20 (u1_11 hc_X12_exit_0 rfl) (u2_d (u1_12 hc_X12_exit_0 rfl) (u1_13 hc_X12_exit_0 rfl) rfl) rfl
theorem dX12_exit_14 : decode cX12_exit 14 = .ok (.invokestatic 166, 3) := o_184 (u1_14 hc_X12_exit_0 rfl) (u2_d (u1_15 hc_X12_exit_0 rfl) (u1_16 hc_X12_exit_0 rfl) rfl) rfl
theorem hc_X12_exit_16 : ((bL cX12_exit).drop 16).take 18 = [166, 153, 0, 15, 29, 133, 9, 20, 1, 23, 184, 0, 166, 154, 0, 5, 2, 172] := by decide +kernel
theorem dX12_exit_17 : decode cX12_exit 17 = .ok (.ifCond .eq 15, 3) := o_153 (u1_1 hc_X12_exit_16 rfl) (s2_d (u2_d (u1_2 hc_X12_exit_16 rfl) (u1_3 hc_X12_exit_16 rfl) rfl) rfl) rfl
theorem dX12_exit_20 : decode cX12_exit 20 = .ok (.iload_n 3, 1) := o_29 (u1_4 hc_X12_exit_16 rfl) rfl
theorem dX12_exit_21 : decode cX12_exit 21 = .ok (.i2l, 1) := o_133 (u1_5 hc_X12_exit_16 rfl) rfl
theorem dX12_exit_22 : decode cX12_exit 22 = .ok (.lconst 0, 1) := o_9 (u1_6 hc_X12_exit_16 rfl) rfl
theorem dX12_exit_23 : decode cX12_exit 23 = .ok (.ldc2_w 279, 3) := o_20 (u1_7 hc_X12_exit_16 rfl) (u2_d (u1_8 hc_X12_exit_16 rfl) (u1_9 hc_X12_exit_16 rfl) rfl) rfl
theorem dX12_exit_26 : decode cX12_exit 26 = .ok (.invokestatic 166, 3) := o_184 (u1_10 hc_X12_exit_16 rfl) (u2_d (u1_11 hc_X12_exit_16 rfl) (u1_12 hc_X12_exit_16 rfl) rfl) rfl
theorem dX12_exit_29 : decode cX12_exit 29 = .ok (.ifCond .ne 5, 3) := o_154 (u1_13 hc_X12_exit_16 rfl) (s2_d (u2_d (u1_14 hc_X12_exit_16 rfl) (u1_15 hc_X12_exit_16 rfl) rfl) rfl) rfl
theorem hc_X12_exit_32 : ((bL cX12_exit).drop 32).take 18 = [2, 172, 42, 27, 3, 182, 0, 184, 154, 0, 9, 42, 6, 182, 0, 233, 172, 42] := by decide +kernel
theorem dX12_exit_32 : decode cX12_exit 32 = .ok (.iconst (-1), 1) := o_2 (u1_0 hc_X12_exit_32 rfl) rfl
theorem dX12_exit_33 : decode cX12_exit 33 = .ok (.ireturn, 1) := o_172 (u1_1 hc_X12_exit_32 rfl) rfl
theorem dX12_exit_34 : decode cX12_exit 34 = .ok (.aload_n 0, 1) := o_42 (u1_2 hc_X12_exit_32 rfl) rfl
theorem dX12_exit_35 : decode cX12_exit 35 = .ok (.iload_n 1, 1) := o_27 (u1_3 hc_X12_exit_32 rfl) rfl
theorem dX12_exit_36 : decode cX12_exit 36 = .ok (.iconst 0, 1) := o_3 (u1_4 hc_X12_exit_32 rfl) rfl
theorem dX12_exit_37 : decode cX12_exit 37 = .ok (.invokevirtual 184, 3) := o_182 (u1_5 hc_X12_exit_32 rfl) (u2_d (u1_6 hc_X12_exit_32 rfl) (u1_7 hc_X12_exit_32 rfl) rfl) rfl
theorem dX12_exit_40 : decode cX12_exit 40 = .ok (.ifCond .ne 9, 3) := o_154 (u1_8 hc_X12_exit_32 rfl) (s2_d (u2_d (u1_9 hc_X12_exit_32 rfl) (u1_10 hc_X12_exit_32 rfl) rfl) rfl) rfl
theorem dX12_exit_43 : decode cX12_exit 43 = .ok (.aload_n 0, 1) := o_42 (u1_11 hc_X12_exit_32 rfl) rfl
theorem dX12_exit_44 : decode cX12_exit 44 = .ok (.iconst 3, 1) := o_6 (u1_12 hc_X12_exit_32 rfl) rfl
theorem dX12_exit_45 : decode cX12_exit 45 = .ok (.invokevirtual 233, 3) := o_182 (u1_13 hc_X12_exit_32 rfl) (u2_d (u1_14 hc_X12_exit_32 rfl) (u1_15 hc_X12_exit_32 rfl) rfl) rfl
theorem hc_X12_exit_48 : ((bL cX12_exit).drop 48).take 18 = [172, 42, 27, 28, 182, 1, 25, 154, 0, 6, 16, 247, 172, 29, 154, 0, 10, 42] := by decide +kernel
theorem dX12_exit_48 : decode cX12_exit 48 = .ok (.ireturn, 1) := o_172 (u1_0 hc_X12_exit_48 rfl) rfl
theorem dX12_exit_49 : decode cX12_exit 49 = .ok (.aload_n 0, 1) := o_42 (u1_1 hc_X12_exit_48 rfl) rfl
theorem dX12_exit_50 : decode cX12_exit 50 = .ok (.iload_n 1, 1) := o_27 (u1_2 hc_X12_exit_48 rfl) rfl
theorem dX12_exit_51 : decode cX12_exit 51 = .ok (.iload_n 2, 1) := o_28 (u1_3 hc_X12_exit_48 rfl) rfl
theorem dX12_exit_52 : decode cX12_exit 52 = .ok (.invokevirtual 281, 3) := o_182 (u1_4 hc_X12_exit_48 rfl) (u2_d (u1_5 hc_X12_exit_48 rfl) (u1_6 hc_X12_exit_48 rfl) rfl) rfl
theorem dX12_exit_55 : decode cX12_exit 55 = .ok (.ifCond .ne 6, 3) := o_154 (u1_7 hc_X12_exit_48 rfl) (s2_d (u2_d (u1_8 hc_X12_exit_48 rfl) (u1_9 hc_X12_exit_48 rfl) rfl) rfl) rfl
theorem dX12_exit_58 : decode cX12_exit 58 = .ok (.bipush (-9), 2) := o_16 (u1_10 hc_X12_exit_48 rfl) (s1_d (u1_11 hc_X12_exit_48 rfl) rfl) rfl
theorem dX12_exit_60 : decode cX12_exit 60 = .ok (.ireturn, 1) := o_172 (u1_12 hc_X12_exit_48 rfl) rfl
theorem dX12_exit_61 : decode cX12_exit 61 = .ok (.iload_n 3, 1) := o_29 (u1_13 hc_X12_exit_48 rfl) rfl
theorem dX12_exit_62 : decode cX12_exit 62 = .ok (.ifCond .ne 10, 3) := o_154 (u1_14 hc_X12_exit_48 rfl) (s2_d (u2_d (u1_15 hc_X12_exit_48 rfl) (u1_16 hc_X12_exit_48 rfl) rfl) rfl) rfl
theorem hc_X12_exit_64 : ((bL cX12_exit).drop 64).take 18 = [10, 42, 180, 1, 7, 167, 0, 39, 29, 4, 160, 0, 10, 42, 180, 1, 10, 167] := by decide +kernel
theorem dX12_exit_65 : decode cX12_exit 65 = .ok (.aload_n 0, 1) := o_42 (u1_1 hc_X12_exit_64 rfl) rfl
theorem dX12_exit_66 : decode cX12_exit 66 = .ok (.getfield 263, 3) := o_180 (u1_2 hc_X12_exit_64 rfl) (u2_d (u1_3 hc_X12_exit_64 rfl) (u1_4 hc_X12_exit_64 rfl) rfl) rfl
theorem dX12_exit_69 : decode cX12_exit 69 = .ok (.goto 39, 3) := o_167 (u1_5 hc_X12_exit_64 rfl) (s2_d (u2_d (u1_6 hc_X12_exit_64 rfl) (u1_7 hc_X12_exit_64 rfl) rfl) rfl) rfl
theorem dX12_exit_72 : decode cX12_exit 72 = .ok (.iload_n 3, 1) := o_29 (u1_8 hc_X12_exit_64 rfl) rfl
theorem dX12_exit_73 : decode cX12_exit 73 = .ok (.iconst 1, 1) := o_4 (u1_9 hc_X12_exit_64 rfl) rfl
theorem dX12_exit_74 : decode cX12_exit 74 = .ok (.if_icmp .ne 10, 3) := o_160 (u1_10 hc_X12_exit_64 rfl) (s2_d (u2_d (u1_11 hc_X12_exit_64 rfl) (u1_12 hc_X12_exit_64 rfl) rfl) rfl) rfl
theorem dX12_exit_77 : decode cX12_exit 77 = .ok (.aload_n 0, 1) := o_42 (u1_13 hc_X12_exit_64 rfl) rfl
theorem dX12_exit_78 : decode cX12_exit 78 = .ok (.getfield 266, 3) := o_180 (u1_14 hc_X12_exit_64 rfl) (u2_d (u1_15 hc_X12_exit_64 rfl) (u1_16 hc_X12_exit_64 rfl) rfl) rfl
theorem hc_X12_exit_80 : ((bL cX12_exit).drop 80).take 18 = [10, 167, 0, 27, 29, 5, 160, 0, 10, 42, 180, 1, 13, 167, 0, 15, 42, 180] := by decide +kernel
theorem dX12_exit_81 : decode cX12_exit 81 = .ok (.goto 27, 3) := o_167 (u1_1 hc_X12_exit_80 rfl) (s2_d (u2_d (u1_2 hc_X12_exit_80 rfl) (u1_3 hc_X12_exit_80 rfl) rfl) rfl) rfl
theorem dX12_exit_84 : decode cX12_exit 84 = .ok (.iload_n 3, 1) := o_29 (u1_4 hc_X12_exit_80 rfl) rfl
theorem dX12_exit_85 : decode cX12_exit 85 = .ok (.iconst 2, 1) := o_5 (u1_5 hc_X12_exit_80 rfl) rfl
theorem dX12_exit_86 : decode cX12_exit 86 = .ok (.if_icmp .ne 10, 3) := o_160 (u1_6 hc_X12_exit_80 rfl) (s2_d (u2_d (u1_7 hc_X12_exit_80 rfl) (u1_8 hc_X12_exit_80 rfl) rfl) rfl) rfl
theorem dX12_exit_89 : decode cX12_exit 89 = .ok (.aload_n 0, 1) := o_42 (u1_9 hc_X12_exit_80 rfl) rfl
theorem dX12_exit_90 : decode cX12_exit 90 = .ok (.getfield 269, 3) := o_180 (u1_10 hc_X12_exit_80 rfl) (u2_d (u1_11 hc_X12_exit_80 rfl) (u1_12 hc_X12_exit_80 rfl) rfl) rfl
theorem dX12_exit_93 : decode cX12_exit 93 = .ok (.goto 15, 3) := o_167 (u1_13 hc_X12_exit_80 rfl) (s2_d (u2_d (u1_14 hc_X12_exit_80 rfl) (u1_15 hc_X12_exit_80 rfl) rfl) rfl) rfl
theorem hc_X12_exit_96 : ((bL cX12_exit).drop 96).take 18 = [42, 180, 1, 16, 153, 0, 7, 4, 167, 0, 4, 3, 172] := by decide +kernel
theorem dX12_exit_96 : decode cX12_exit 96 = .ok (.aload_n 0, 1) := o_42 (u1_0 hc_X12_exit_96 rfl) rfl
theorem dX12_exit_97 : decode cX12_exit 97 = .ok (.getfield 272, 3) := o_180 (u1_1 hc_X12_exit_96 rfl) (u2_d (u1_2 hc_X12_exit_96 rfl) (u1_3 hc_X12_exit_96 rfl) rfl) rfl
theorem dX12_exit_100 : decode cX12_exit 100 = .ok (.ifCond .eq 7, 3) := o_153 (u1_4 hc_X12_exit_96 rfl) (s2_d (u2_d (u1_5 hc_X12_exit_96 rfl) (u1_6 hc_X12_exit_96 rfl) rfl) rfl) rfl
theorem dX12_exit_103 : decode cX12_exit 103 = .ok (.iconst 1, 1) := o_4 (u1_7 hc_X12_exit_96 rfl) rfl
theorem dX12_exit_104 : decode cX12_exit 104 = .ok (.goto 4, 3) := o_167 (u1_8 hc_X12_exit_96 rfl) (s2_d (u2_d (u1_9 hc_X12_exit_96 rfl) (u1_10 hc_X12_exit_96 rfl) rfl) rfl) rfl
theorem dX12_exit_107 : decode cX12_exit 107 = .ok (.iconst 0, 1) := o_3 (u1_11 hc_X12_exit_96 rfl) rfl
theorem dX12_exit_108 : decode cX12_exit 108 = .ok (.ireturn, 1) := o_172 (u1_12 hc_X12_exit_96 rfl) rfl
theorem hc_X12_walk_0 : ((bL cX12_walk).drop 0).take 18 = [3, 62, 29, 42, 180, 0, 177, 162, 0, 17, 42, 180, 0, 44, 29, 16, 247, 79] := by decide +kernel
theorem dX12_walk_0 : decode cX12_walk 0 = .ok (.iconst 0, 1) := o_3 (u1_0 hc_X12_walk_0 rfl) rfl
theorem dX12_walk_1 : decode cX12_walk 1 = .ok (.istore_n 3, 1) := o_62 (u1_1 hc_X12_walk_0 rfl) rfl
theorem dX12_walk_2 : decode cX12_walk 2 = .ok (.iload_n 3, 1) := o_29 (u1_2 hc_X12_walk_0 rfl) rfl
theorem dX12_walk_3 : decode cX12_walk 3 = .ok (.aload_n 0, 1) := o_42 (u1_3 hc_X12_walk_0 rfl) rfl
theorem dX12_walk_4 : decode cX12_walk 4 = .ok (.getfield 177, 3) := o_180 (u1_4 hc_X12_walk_0 rfl) (u2_d (u1_5 hc_X12_walk_0 rfl) (u1_6 hc_X12_walk_0 rfl) rfl) rfl
theorem dX12_walk_7 : decode cX12_walk 7 = .ok (.if_icmp .ge 17, 3) := o_162 (u1_7 hc_X12_walk_0 rfl) (s2_d (u2_d (u1_8 hc_X12_walk_0 rfl) (u1_9 hc_X12_walk_0 rfl) rfl) rfl) rfl
theorem dX12_walk_10 : decode cX12_walk 10 = .ok (.aload_n 0, 1) := o_42 (u1_10 hc_X12_walk_0 rfl) rfl
theorem dX12_walk_11 : decode cX12_walk 11 = .ok (.getfield 44, 3) := o_180 (u1_11 hc_X12_walk_0 rfl) (u2_d (u1_12 hc_X12_walk_0 rfl) (u1_13 hc_X12_walk_0 rfl) rfl) rfl
theorem dX12_walk_14 : decode cX12_walk 14 = .ok (.iload_n 3, 1) := o_29 (u1_14 hc_X12_walk_0 rfl) rfl
theorem dX12_walk_15 : decode cX12_walk 15 = .ok (.bipush (-9), 2) := o_16 (u1_15 hc_X12_walk_0 rfl) (s1_d (u1_16 hc_X12_walk_0 rfl) rfl) rfl
theorem hc_X12_walk_16 : ((bL cX12_walk).drop 16).take 18 = [247, 79, 132, 3, 1, 167, 255, 237, 42, 180, 0, 44, 27, 3, 79, 42, 180, 0] := by decide +kernel
theorem dX12_walk_17 : decode cX12_walk 17 = .ok (.iastore, 1) := o_79 (u1_1 hc_X12_walk_16 rfl) rfl
theorem dX12_walk_18 : decode cX12_walk 18 = .ok (.iinc 3 1, 3) := o_132 (u1_2 hc_X12_walk_16 rfl) (u1_3 hc_X12_walk_16 rfl) (s1_d (u1_4 hc_X12_walk_16 rfl) rfl) rfl
theorem dX12_walk_21 : decode cX12_walk 21 = .ok (.goto (-19), 3) := o_167 (u1_5 hc_X12_walk_16 rfl) (s2_d (u2_d (u1_6 hc_X12_walk_16 rfl) (u1_7 hc_X12_walk_16 rfl) rfl) rfl) rfl
theorem dX12_walk_24 : decode cX12_walk 24 = .ok (.aload_n 0, 1) := o_42 (u1_8 hc_X12_walk_16 rfl) rfl
theorem dX12_walk_25 : decode cX12_walk 25 = .ok (.getfield 44, 3) := o_180 (u1_9 hc_X12_walk_16 rfl) (u2_d (u1_10 hc_X12_walk_16 rfl) (u1_11 hc_X12_walk_16 rfl) rfl) rfl
theorem dX12_walk_28 : decode cX12_walk 28 = .ok (.iload_n 1, 1) := o_27 (u1_12 hc_X12_walk_16 rfl) rfl
theorem dX12_walk_29 : decode cX12_walk 29 = .ok (.iconst 0, 1) := o_3 (u1_13 hc_X12_walk_16 rfl) rfl
theorem dX12_walk_30 : decode cX12_walk 30 = .ok (.iastore, 1) := o_79 (u1_14 hc_X12_walk_16 rfl) rfl
theorem dX12_walk_31 : decode cX12_walk 31 = .ok (.aload_n 0, 1) := o_42 (u1_15 hc_X12_walk_16 rfl) rfl
theorem hc_X12_walk_32 : ((bL cX12_walk).drop 32).take 18 = [180, 0, 47, 3, 27, 79, 4, 62, 3, 54, 4, 21, 4, 29, 162, 0, 138, 3] := by decide +kernel
theorem dX12_walk_32 : decode cX12_walk 32 = .ok (.getfield 47, 3) := o_180 (u1_0 hc_X12_walk_32 rfl) (u2_d (u1_1 hc_X12_walk_32 rfl) (u1_2 hc_X12_walk_32 rfl) rfl) rfl
theorem dX12_walk_35 : decode cX12_walk 35 = .ok (.iconst 0, 1) := o_3 (u1_3 hc_X12_walk_32 rfl) rfl
theorem dX12_walk_36 : decode cX12_walk 36 = .ok (.iload_n 1, 1) := o_27 (u1_4 hc_X12_walk_32 rfl) rfl
theorem dX12_walk_37 : decode cX12_walk 37 = .ok (.iastore, 1) := o_79 (u1_5 hc_X12_walk_32 rfl) rfl
theorem dX12_walk_38 : decode cX12_walk 38 = .ok (.iconst 1, 1) := o_4 (u1_6 hc_X12_walk_32 rfl) rfl
theorem dX12_walk_39 : decode cX12_walk 39 = .ok (.istore_n 3, 1) := o_62 (u1_7 hc_X12_walk_32 rfl) rfl
theorem dX12_walk_40 : decode cX12_walk 40 = .ok (.iconst 0, 1) := o_3 (u1_8 hc_X12_walk_32 rfl) rfl
theorem dX12_walk_41 : decode cX12_walk 41 = .ok (.istore 4, 2) := o_54 (u1_9 hc_X12_walk_32 rfl) (u1_10 hc_X12_walk_32 rfl) rfl
theorem dX12_walk_43 : decode cX12_walk 43 = .ok (.iload 4, 2) := o_21 (u1_11 hc_X12_walk_32 rfl) (u1_12 hc_X12_walk_32 rfl) rfl
theorem dX12_walk_45 : decode cX12_walk 45 = .ok (.iload_n 3, 1) := o_29 (u1_13 hc_X12_walk_32 rfl) rfl
theorem dX12_walk_46 : decode cX12_walk 46 = .ok (.if_icmp .ge 138, 3) := o_162 (u1_14 hc_X12_walk_32 rfl) (s2_d (u2_d (u1_15 hc_X12_walk_32 rfl) (u1_16 hc_X12_walk_32 rfl) rfl) rfl) rfl
theorem hc_X12_walk_48 : ((bL cX12_walk).drop 48).take 18 = [138, 3, 54, 5, 21, 5, 16, 10, 162, 0, 122, 42, 42, 180, 0, 47, 21, 4] := by decide +kernel
theorem dX12_walk_49 : decode cX12_walk 49 = .ok (.iconst 0, 1) := o_3 (u1_1 hc_X12_walk_48 rfl) rfl
theorem dX12_walk_50 : decode cX12_walk 50 = .ok (.istore 5, 2) := o_54 (u1_2 hc_X12_walk_48 rfl) (u1_3 hc_X12_walk_48 rfl) rfl
theorem dX12_walk_52 : decode cX12_walk 52 = .ok (.iload 5, 2) := o_21 (u1_4 hc_X12_walk_48 rfl) (u1_5 hc_X12_walk_48 rfl) rfl
theorem dX12_walk_54 : decode cX12_walk 54 = .ok (.bipush 10, 2) := o_16 (u1_6 hc_X12_walk_48 rfl) (s1_d (u1_7 hc_X12_walk_48 rfl) rfl) rfl
theorem dX12_walk_56 : decode cX12_walk 56 = .ok (.if_icmp .ge 122, 3) := o_162 (u1_8 hc_X12_walk_48 rfl) (s2_d (u2_d (u1_9 hc_X12_walk_48 rfl) (u1_10 hc_X12_walk_48 rfl) rfl) rfl) rfl
theorem dX12_walk_59 : decode cX12_walk 59 = .ok (.aload_n 0, 1) := o_42 (u1_11 hc_X12_walk_48 rfl) rfl
theorem dX12_walk_60 : decode cX12_walk 60 = .ok (.aload_n 0, 1) := o_42 (u1_12 hc_X12_walk_48 rfl) rfl
theorem dX12_walk_61 : decode cX12_walk 61 = .ok (.getfield 47, 3) := o_180 (u1_13 hc_X12_walk_48 rfl) (u2_d (u1_14 hc_X12_walk_48 rfl) (u1_15 hc_X12_walk_48 rfl) rfl) rfl
theorem hc_X12_walk_64 : ((bL cX12_walk).drop 64).take 18 = [21, 4, 46, 21, 5, 182, 1, 25, 153, 0, 42, 42, 180, 1, 7, 16, 247, 159] := by decide +kernel
theorem dX12_walk_64 : decode cX12_walk 64 = .ok (.iload 4, 2) := o_21 (u1_0 hc_X12_walk_64 rfl) (u1_1 hc_X12_walk_64 rfl) rfl
theorem dX12_walk_66 : decode cX12_walk 66 = .ok (.iaload, 1) := o_46 (u1_2 hc_X12_walk_64 rfl) rfl
theorem dX12_walk_67 : decode cX12_walk 67 = .ok (.iload 5, 2) := o_21 (u1_3 hc_X12_walk_64 rfl) (u1_4 hc_X12_walk_64 rfl) rfl
theorem dX12_walk_69 : decode cX12_walk 69 = .ok (.invokevirtual 281, 3) := o_182 (u1_5 hc_X12_walk_64 rfl) (u2_d (u1_6 hc_X12_walk_64 rfl) (u1_7 hc_X12_walk_64 rfl) rfl) rfl
theorem dX12_walk_72 : decode cX12_walk 72 = .ok (.ifCond .eq 42, 3) := o_153 (u1_8 hc_X12_walk_64 rfl) (s2_d (u2_d (u1_9 hc_X12_walk_64 rfl) (u1_10 hc_X12_walk_64 rfl) rfl) rfl) rfl
theorem dX12_walk_75 : decode cX12_walk 75 = .ok (.aload_n 0, 1) := o_42 (u1_11 hc_X12_walk_64 rfl) rfl
theorem dX12_walk_76 : decode cX12_walk 76 = .ok (.getfield 263, 3) := o_180 (u1_12 hc_X12_walk_64 rfl) (u2_d (u1_13 hc_X12_walk_64 rfl) (u1_14 hc_X12_walk_64 rfl) rfl) rfl
theorem dX12_walk_79 : decode cX12_walk 79 = .ok (.bipush (-9), 2) := o_16 (u1_15 hc_X12_walk_64 rfl) (s1_d (u1_16 hc_X12_walk_64 rfl) rfl) rfl
theorem hc_X12_walk_80 : ((bL cX12_walk).drop 80).take 18 = [247, 159, 0, 33, 28, 153, 0, 25, 42, 180, 1, 10, 16, 247, 159, 0, 16, 42] := by decide +kernel
theorem dX12_walk_81 : decode cX12_walk 81 = .ok (.if_icmp .eq 33, 3) := o_159 (u1_1 hc_X12_walk_80 rfl) (s2_d (u2_d (u1_2 hc_X12_walk_80 rfl) (u1_3 hc_X12_walk_80 rfl) rfl) rfl) rfl
theorem dX12_walk_84 : decode cX12_walk 84 = .ok (.iload_n 2, 1) := o_28 (u1_4 hc_X12_walk_80 rfl) rfl
theorem dX12_walk_85 : decode cX12_walk 85 = .ok (.ifCond .eq 25, 3) := o_153 (u1_5 hc_X12_walk_80 rfl) (s2_d (u2_d (u1_6 hc_X12_walk_80 rfl) (u1_7 hc_X12_walk_80 rfl) rfl) rfl) rfl
theorem dX12_walk_88 : decode cX12_walk 88 = .ok (.aload_n 0, 1) := o_42 (u1_8 hc_X12_walk_80 rfl) rfl
theorem dX12_walk_89 : decode cX12_walk 89 = .ok (.getfield 266, 3) := o_180 (u1_9 hc_X12_walk_80 rfl) (u2_d (u1_10 hc_X12_walk_80 rfl) (u1_11 hc_X12_walk_80 rfl) rfl) rfl
theorem dX12_walk_92 : decode cX12_walk 92 = .ok (.bipush (-9), 2) := o_16 (u1_12 hc_X12_walk_80 rfl) (s1_d (u1_13 hc_X12_walk_80 rfl) rfl) rfl
theorem dX12_walk_94 : decode cX12_walk 94 = .ok (.if_icmp .eq 16, 3) := o_159 (u1_14 hc_X12_walk_80 rfl) (s2_d (u2_d (u1_15 hc_X12_walk_80 rfl) (u1_16 hc_X12_walk_80 rfl) rfl) rfl) rfl
theorem hc_X12_walk_96 : ((bL cX12_walk).drop 96).take 18 = [16, 42, 42, 180, 1, 10, 3, 182, 1, 0, 4, 160, 0, 7, 4, 167, 0, 4] := by decide +kernel
theorem dX12_walk_97 : decode cX12_walk 97 = .ok (.aload_n 0, 1) := o_42 (u1_1 hc_X12_walk_96 rfl) rfl
theorem dX12_walk_98 : decode cX12_walk 98 = .ok (.aload_n 0, 1) := o_42 (u1_2 hc_X12_walk_96 rfl) rfl
theorem dX12_walk_99 : decode cX12_walk 99 = .ok (.getfield 266, 3) := o_180 (u1_3 hc_X12_walk_96 rfl) (u2_d (u1_4 hc_X12_walk_96 rfl) (u1_5 hc_X12_walk_96 rfl) rfl) rfl
theorem dX12_walk_102 : decode cX12_walk 102 = .ok (.iconst 0, 1) := o_3 (u1_6 hc_X12_walk_96 rfl) rfl
theorem dX12_walk_103 : decode cX12_walk 103 = .ok (.invokevirtual 256, 3) := o_182 (u1_7 hc_X12_walk_96 rfl) (u2_d (u1_8 hc_X12_walk_96 rfl) (u1_9 hc_X12_walk_96 rfl) rfl) rfl
theorem dX12_walk_106 : decode cX12_walk 106 = .ok (.iconst 1, 1) := o_4 (u1_10 hc_X12_walk_96 rfl) rfl
theorem dX12_walk_107 : decode cX12_walk 107 = .ok (.if_icmp .ne 7, 3) := o_160 (u1_11 hc_X12_walk_96 rfl) (s2_d (u2_d (u1_12 hc_X12_walk_96 rfl) (u1_13 hc_X12_walk_96 rfl) rfl) rfl) rfl
theorem dX12_walk_110 : decode cX12_walk 110 = .ok (.iconst 1, 1) := o_4 (u1_14 hc_X12_walk_96 rfl) rfl
theorem dX12_walk_111 : decode cX12_walk 111 = .ok (.goto 4, 3) := o_167 (u1_15 hc_X12_walk_96 rfl) (s2_d (u2_d (u1_16 hc_X12_walk_96 rfl) (u1_17 hc_X12_walk_96 rfl) rfl) rfl) rfl
theorem hc_X12_walk_112 : ((bL cX12_walk).drop 112).take 18 = [0, 4, 3, 54, 6, 21, 6, 153, 0, 53, 42, 180, 0, 44, 42, 180, 1, 7] := by decide +kernel
theorem dX12_walk_114 : decode cX12_walk 114 = .ok (.iconst 0, 1) := o_3 (u1_2 hc_X12_walk_112 rfl) rfl
theorem dX12_walk_115 : decode cX12_walk 115 = .ok (.istore 6, 2) := o_54 (u1_3 hc_X12_walk_112 rfl) (u1_4 hc_X12_walk_112 rfl) rfl
theorem dX12_walk_117 : decode cX12_walk 117 = .ok (.iload 6, 2) := o_21 (u1_5 hc_X12_walk_112 rfl) (u1_6 hc_X12_walk_112 rfl) rfl
theorem dX12_walk_119 : decode cX12_walk 119 = .ok (.ifCond .eq 53, 3) := o_153 (u1_7 hc_X12_walk_112 rfl) (s2_d (u2_d (u1_8 hc_X12_walk_112 rfl) (u1_9 hc_X12_walk_112 rfl) rfl) rfl) rfl
theorem dX12_walk_122 : decode cX12_walk 122 = .ok (.aload_n 0, 1) := o_42 (u1_10 hc_X12_walk_112 rfl) rfl
theorem dX12_walk_123 : decode cX12_walk 123 = .ok (.getfield 44, 3) := o_180 (u1_11 hc_X12_walk_112 rfl) (u2_d (u1_12 hc_X12_walk_112 rfl) (u1_13 hc_X12_walk_112 rfl) rfl) rfl
theorem dX12_walk_126 : decode cX12_walk 126 = .ok (.aload_n 0, 1) := o_42 (u1_14 hc_X12_walk_112 rfl) rfl
theorem dX12_walk_127 : decode cX12_walk 127 = .ok (.getfield 263, 3) := o_180 (u1_15 hc_X12_walk_112 rfl) (u2_d (u1_16 hc_X12_walk_112 rfl) (u1_17 hc_X12_walk_112 rfl) rfl) rfl
theorem hc_X12_walk_128 : ((bL cX12_walk).drop 128).take 18 = [1, 7, 46, 16, 247, 160, 0, 39, 42, 180, 0, 44, 42, 180, 1, 7, 42, 180] := by decide +kernel
theorem dX12_walk_130 : decode cX12_walk 130 = .ok (.iaload, 1) := o_46 (u1_2 hc_X12_walk_128 rfl) rfl
theorem dX12_walk_131 : decode cX12_walk 131 = .ok (.bipush (-9), 2) := o_16 (u1_3 hc_X12_walk_128 rfl) (s1_d (u1_4 hc_X12_walk_128 rfl) rfl) rfl
theorem dX12_walk_133 : decode cX12_walk 133 = .ok (.if_icmp .ne 39, 3) := o_160 (u1_5 hc_X12_walk_128 rfl) (s2_d (u2_d (u1_6 hc_X12_walk_128 rfl) (u1_7 hc_X12_walk_128 rfl) rfl) rfl) rfl
theorem dX12_walk_136 : decode cX12_walk 136 = .ok (.aload_n 0, 1) := o_42 (u1_8 hc_X12_walk_128 rfl) rfl
theorem dX12_walk_137 : decode cX12_walk 137 = .ok (.getfield 44, 3) := o_180 (u1_9 hc_X12_walk_128 rfl) (u2_d (u1_10 hc_X12_walk_128 rfl) (u1_11 hc_X12_walk_128 rfl) rfl) rfl
theorem dX12_walk_140 : decode cX12_walk 140 = .ok (.aload_n 0, 1) := o_42 (u1_12 hc_X12_walk_128 rfl) rfl
theorem dX12_walk_141 : decode cX12_walk 141 = .ok (.getfield 263, 3) := o_180 (u1_13 hc_X12_walk_128 rfl) (u2_d (u1_14 hc_X12_walk_128 rfl) (u1_15 hc_X12_walk_128 rfl) rfl) rfl
theorem hc_X12_walk_144 : ((bL cX12_walk).drop 144).take 18 = [42, 180, 0, 44, 42, 180, 0, 47, 21, 4, 46, 46, 4, 96, 79, 42, 180, 0] := by decide +kernel
theorem dX12_walk_144 : decode cX12_walk 144 = .ok (.aload_n 0, 1) := o_42 (u1_0 hc_X12_walk_144 rfl) rfl
theorem dX12_walk_145 : decode cX12_walk 145 = .ok (.getfield 44, 3) := o_180 (u1_1 hc_X12_walk_144 rfl) (u2_d (u1_2 hc_X12_walk_144 rfl) (u1_3 hc_X12_walk_144 rfl) rfl) rfl
theorem dX12_walk_148 : decode cX12_walk 148 = .ok (.aload_n 0, 1) := o_42 (u1_4 hc_X12_walk_144 rfl) rfl
theorem dX12_walk_149 : decode cX12_walk 149 = .ok (.getfield 47, 3) := o_180 (u1_5 hc_X12_walk_144 rfl) (u2_d (u1_6 hc_X12_walk_144 rfl) (u1_7 hc_X12_walk_144 rfl) rfl) rfl
theorem dX12_walk_152 : decode cX12_walk 152 = .ok (.iload 4, 2) := o_21 (u1_8 hc_X12_walk_144 rfl) (u1_9 hc_X12_walk_144 rfl) rfl
theorem dX12_walk_154 : decode cX12_walk 154 = .ok (.iaload, 1) := o_46 (u1_10 hc_X12_walk_144 rfl) rfl
theorem dX12_walk_155 : decode cX12_walk 155 = .ok (.iaload, 1) := o_46 (u1_11 hc_X12_walk_144 rfl) rfl
theorem dX12_walk_156 : decode cX12_walk 156 = .ok (.iconst 1, 1) := o_4 (u1_12 hc_X12_walk_144 rfl) rfl
theorem dX12_walk_157 : decode cX12_walk 157 = .ok (.iadd, 1) := o_96 (u1_13 hc_X12_walk_144 rfl) rfl
theorem dX12_walk_158 : decode cX12_walk 158 = .ok (.iastore, 1) := o_79 (u1_14 hc_X12_walk_144 rfl) rfl
theorem dX12_walk_159 : decode cX12_walk 159 = .ok (.aload_n 0, 1) := o_42 (u1_15 hc_X12_walk_144 rfl) rfl
theorem hc_X12_walk_160 : ((bL cX12_walk).drop 160).take 18 = [180, 0, 47, 29, 42, 180, 1, 7, 79, 132, 3, 1, 132, 5, 1, 167, 255, 133] := by decide +kernel
theorem dX12_walk_160 : decode cX12_walk 160 = .ok (.getfield 47, 3) := o_180 (u1_0 hc_X12_walk_160 rfl) (u2_d (u1_1 hc_X12_walk_160 rfl) (u1_2 hc_X12_walk_160 rfl) rfl) rfl
theorem dX12_walk_163 : decode cX12_walk 163 = .ok (.iload_n 3, 1) := o_29 (u1_3 hc_X12_walk_160 rfl) rfl
theorem dX12_walk_164 : decode cX12_walk 164 = .ok (.aload_n 0, 1) := o_42 (u1_4 hc_X12_walk_160 rfl) rfl
theorem dX12_walk_165 : decode cX12_walk 165 = .ok (.getfield 263, 3) := o_180 (u1_5 hc_X12_walk_160 rfl) (u2_d (u1_6 hc_X12_walk_160 rfl) (u1_7 hc_X12_walk_160 rfl) rfl) rfl
theorem dX12_walk_168 : decode cX12_walk 168 = .ok (.iastore, 1) := o_79 (u1_8 hc_X12_walk_160 rfl) rfl
theorem dX12_walk_169 : decode cX12_walk 169 = .ok (.iinc 3 1, 3) := o_132 (u1_9 hc_X12_walk_160 rfl) (u1_10 hc_X12_walk_160 rfl) (s1_d (u1_11 hc_X12_walk_160 rfl) rfl) rfl
theorem dX12_walk_172 : decode cX12_walk 172 = .ok (.iinc 5 1, 3) := o_132 (u1_12 hc_X12_walk_160 rfl) (u1_13 hc_X12_walk_160 rfl) (s1_d (u1_14 hc_X12_walk_160 rfl) rfl) rfl
theorem dX12_walk_175 : decode cX12_walk 175 = .ok (.goto (-123), 3) := o_167 (u1_15 hc_X12_walk_160 rfl) (s2_d (u2_d (u1_16 hc_X12_walk_160 rfl) (u1_17 hc_X12_walk_160 rfl) rfl) rfl) rfl
theorem hc_X12_walk_176 : ((bL cX12_walk).drop 176).take 18 = [255, 133, 132, 4, 1, 167, 255, 118, 177] := by decide +kernel
theorem dX12_walk_178 : decode cX12_walk 178 = .ok (.iinc 4 1, 3) := o_132 (u1_2 hc_X12_walk_176 rfl) (u1_3 hc_X12_walk_176 rfl) (s1_d (u1_4 hc_X12_walk_176 rfl) rfl) rfl
theorem dX12_walk_181 : decode cX12_walk 181 = .ok (.goto (-138), 3) := o_167 (u1_5 hc_X12_walk_176 rfl) (s2_d (u2_d (u1_6 hc_X12_walk_176 rfl) (u1_7 hc_X12_walk_176 rfl) rfl) rfl) rfl
theorem dX12_walk_184 : decode cX12_walk 184 = .ok (.return_, 1) := o_177 (u1_8 hc_X12_walk_176 rfl) rfl
theorem hc_X12_wayRefused_0 : ((bL cX12_wayRefused).drop 0).take 18 = [42, 27, 182, 0, 180, 153, 0, 11, 42, 28, 182, 0, 180, 154, 0, 7, 2, 167] := by decide +kernel
theorem dX12_wayRefused_0 : decode cX12_wayRefused 0 = .ok (.aload_n 0, 1) := o_42 (u1_0 hc_X12_wayRefused_0 rfl) rfl
theorem dX12_wayRefused_1 : decode cX12_wayRefused 1 = .ok (.iload_n 1, 1) := o_27 (u1_1 hc_X12_wayRefused_0 rfl) rfl
theorem dX12_wayRefused_2 : decode cX12_wayRefused 2 = .ok (.invokevirtual 180, 3) := o_182 (u1_2 hc_X12_wayRefused_0 rfl) (u2_d (u1_3 hc_X12_wayRefused_0 rfl) (u1_4 hc_X12_wayRefused_0 rfl) rfl) rfl
theorem dX12_wayRefused_5 : decode cX12_wayRefused 5 = .ok (.ifCond .eq 11, 3) := o_153 (u1_5 hc_X12_wayRefused_0 rfl) (s2_d (u2_d (u1_6 hc_X12_wayRefused_0 rfl) (u1_7 hc_X12_wayRefused_0 rfl) rfl) rfl) rfl
theorem dX12_wayRefused_8 : decode cX12_wayRefused 8 = .ok (.aload_n 0, 1) := o_42 (u1_8 hc_X12_wayRefused_0 rfl) rfl
theorem dX12_wayRefused_9 : decode cX12_wayRefused 9 = .ok (.iload_n 2, 1) := o_28 (u1_9 hc_X12_wayRefused_0 rfl) rfl
theorem dX12_wayRefused_10 : decode cX12_wayRefused 10 = .ok (.invokevirtual 180, 3) := o_182 (u1_10 hc_X12_wayRefused_0 rfl) (u2_d (u1_11 hc_X12_wayRefused_0 rfl) (u1_12 hc_X12_wayRefused_0 rfl) rfl) rfl
theorem dX12_wayRefused_13 : decode cX12_wayRefused 13 = .ok (.ifCond .ne 7, 3) := o_154 (u1_13 hc_X12_wayRefused_0 rfl) (s2_d (u2_d (u1_14 hc_X12_wayRefused_0 rfl) (u1_15 hc_X12_wayRefused_0 rfl) rfl) rfl) rfl
theorem hc_X12_wayRefused_16 : ((bL cX12_wayRefused).drop 16).take 18 = [2, 167, 0, 30, 42, 27, 3, 182, 0, 184, 153, 0, 12, 42, 28, 3, 182, 0] := by decide +kernel
theorem dX12_wayRefused_16 : decode cX12_wayRefused 16 = .ok (.iconst (-1), 1) := o_2 (u1_0 hc_X12_wayRefused_16 rfl) rfl
theorem dX12_wayRefused_17 : decode cX12_wayRefused 17 = .ok (.goto 30, 3) := o_167 (u1_1 hc_X12_wayRefused_16 rfl) (s2_d (u2_d (u1_2 hc_X12_wayRefused_16 rfl) (u1_3 hc_X12_wayRefused_16 rfl) rfl) rfl) rfl
theorem dX12_wayRefused_20 : decode cX12_wayRefused 20 = .ok (.aload_n 0, 1) := o_42 (u1_4 hc_X12_wayRefused_16 rfl) rfl
theorem dX12_wayRefused_21 : decode cX12_wayRefused 21 = .ok (.iload_n 1, 1) := o_27 (u1_5 hc_X12_wayRefused_16 rfl) rfl
theorem dX12_wayRefused_22 : decode cX12_wayRefused 22 = .ok (.iconst 0, 1) := o_3 (u1_6 hc_X12_wayRefused_16 rfl) rfl
theorem dX12_wayRefused_23 : decode cX12_wayRefused 23 = .ok (.invokevirtual 184, 3) := o_182 (u1_7 hc_X12_wayRefused_16 rfl) (u2_d (u1_8 hc_X12_wayRefused_16 rfl) (u1_9 hc_X12_wayRefused_16 rfl) rfl) rfl
theorem dX12_wayRefused_26 : decode cX12_wayRefused 26 = .ok (.ifCond .eq 12, 3) := o_153 (u1_10 hc_X12_wayRefused_16 rfl) (s2_d (u2_d (u1_11 hc_X12_wayRefused_16 rfl) (u1_12 hc_X12_wayRefused_16 rfl) rfl) rfl) rfl
theorem dX12_wayRefused_29 : decode cX12_wayRefused 29 = .ok (.aload_n 0, 1) := o_42 (u1_13 hc_X12_wayRefused_16 rfl) rfl
theorem dX12_wayRefused_30 : decode cX12_wayRefused 30 = .ok (.iload_n 2, 1) := o_28 (u1_14 hc_X12_wayRefused_16 rfl) rfl
theorem dX12_wayRefused_31 : decode cX12_wayRefused 31 = .ok (.iconst 0, 1) := o_3 (u1_15 hc_X12_wayRefused_16 rfl) rfl
theorem hc_X12_wayRefused_32 : ((bL cX12_wayRefused).drop 32).take 18 = [182, 0, 184, 154, 0, 11, 42, 6, 182, 0, 233, 167, 0, 4, 3, 172] := by decide +kernel
theorem dX12_wayRefused_32 : decode cX12_wayRefused 32 = .ok (.invokevirtual 184, 3) := o_182 (u1_0 hc_X12_wayRefused_32 rfl) (u2_d (u1_1 hc_X12_wayRefused_32 rfl) (u1_2 hc_X12_wayRefused_32 rfl) rfl) rfl
theorem dX12_wayRefused_35 : decode cX12_wayRefused 35 = .ok (.ifCond .ne 11, 3) := o_154 (u1_3 hc_X12_wayRefused_32 rfl) (s2_d (u2_d (u1_4 hc_X12_wayRefused_32 rfl) (u1_5 hc_X12_wayRefused_32 rfl) rfl) rfl) rfl
theorem dX12_wayRefused_38 : decode cX12_wayRefused 38 = .ok (.aload_n 0, 1) := o_42 (u1_6 hc_X12_wayRefused_32 rfl) rfl
theorem dX12_wayRefused_39 : decode cX12_wayRefused 39 = .ok (.iconst 3, 1) := o_6 (u1_7 hc_X12_wayRefused_32 rfl) rfl
theorem dX12_wayRefused_40 : decode cX12_wayRefused 40 = .ok (.invokevirtual 233, 3) := o_182 (u1_8 hc_X12_wayRefused_32 rfl) (u2_d (u1_9 hc_X12_wayRefused_32 rfl) (u1_10 hc_X12_wayRefused_32 rfl) rfl) rfl
theorem dX12_wayRefused_43 : decode cX12_wayRefused 43 = .ok (.goto 4, 3) := o_167 (u1_11 hc_X12_wayRefused_32 rfl) (s2_d (u2_d (u1_12 hc_X12_wayRefused_32 rfl) (u1_13 hc_X12_wayRefused_32 rfl) rfl) rfl) rfl
theorem dX12_wayRefused_46 : decode cX12_wayRefused 46 = .ok (.iconst 0, 1) := o_3 (u1_14 hc_X12_wayRefused_32 rfl) rfl
theorem dX12_wayRefused_47 : decode cX12_wayRefused 47 = .ok (.ireturn, 1) := o_172 (u1_15 hc_X12_wayRefused_32 rfl) rfl
theorem hc_X12_way_0 : ((bL cX12_way).drop 0).take 18 = [42, 27, 28, 182, 1, 28, 54, 4, 21, 4, 156, 0, 6, 21, 4, 172, 42, 27] := by decide +kernel
theorem dX12_way_0 : decode cX12_way 0 = .ok (.aload_n 0, 1) := o_42 (u1_0 hc_X12_way_0 rfl) rfl
theorem dX12_way_1 : decode cX12_way 1 = .ok (.iload_n 1, 1) := o_27 (u1_1 hc_X12_way_0 rfl) rfl
theorem dX12_way_2 : decode cX12_way 2 = .ok (.iload_n 2, 1) := o_28 (u1_2 hc_X12_way_0 rfl) rfl
theorem dX12_way_3 : decode cX12_way 3 = .ok (.invokevirtual 284, 3) := o_182 (u1_3 hc_X12_way_0 rfl) (u2_d (u1_4 hc_X12_way_0 rfl) (u1_5 hc_X12_way_0 rfl) rfl) rfl
theorem dX12_way_6 : decode cX12_way 6 = .ok (.istore 4, 2) := o_54 (u1_6 hc_X12_way_0 rfl) (u1_7 hc_X12_way_0 rfl) rfl
theorem dX12_way_8 : decode cX12_way 8 = .ok (.iload 4, 2) := o_21 (u1_8 hc_X12_way_0 rfl) (u1_9 hc_X12_way_0 rfl) rfl
theorem dX12_way_10 : decode cX12_way 10 = .ok (.ifCond .ge 6, 3) := o_156 (u1_10 hc_X12_way_0 rfl) (s2_d (u2_d (u1_11 hc_X12_way_0 rfl) (u1_12 hc_X12_way_0 rfl) rfl) rfl) rfl
theorem dX12_way_13 : decode cX12_way 13 = .ok (.iload 4, 2) := o_21 (u1_13 hc_X12_way_0 rfl) (u1_14 hc_X12_way_0 rfl) rfl
theorem dX12_way_15 : decode cX12_way 15 = .ok (.ireturn, 1) := o_172 (u1_15 hc_X12_way_0 rfl) rfl
theorem hc_X12_way_16 : ((bL cX12_way).drop 16).take 18 = [42, 27, 29, 182, 1, 31, 42, 180, 0, 44, 28, 46, 172] := by decide +kernel
theorem dX12_way_16 : decode cX12_way 16 = .ok (.aload_n 0, 1) := o_42 (u1_0 hc_X12_way_16 rfl) rfl
theorem dX12_way_17 : decode cX12_way 17 = .ok (.iload_n 1, 1) := o_27 (u1_1 hc_X12_way_16 rfl) rfl
theorem dX12_way_18 : decode cX12_way 18 = .ok (.iload_n 3, 1) := o_29 (u1_2 hc_X12_way_16 rfl) rfl
theorem dX12_way_19 : decode cX12_way 19 = .ok (.invokevirtual 287, 3) := o_182 (u1_3 hc_X12_way_16 rfl) (u2_d (u1_4 hc_X12_way_16 rfl) (u1_5 hc_X12_way_16 rfl) rfl) rfl
theorem dX12_way_22 : decode cX12_way 22 = .ok (.aload_n 0, 1) := o_42 (u1_6 hc_X12_way_16 rfl) rfl
theorem dX12_way_23 : decode cX12_way 23 = .ok (.getfield 44, 3) := o_180 (u1_7 hc_X12_way_16 rfl) (u2_d (u1_8 hc_X12_way_16 rfl) (u1_9 hc_X12_way_16 rfl) rfl) rfl
