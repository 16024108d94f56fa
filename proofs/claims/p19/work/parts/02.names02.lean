theorem dX2_weighAllOf_27 : decode cX2_weighAllOf 27 = .ok (.iload_n 3, 1) := o_29 (u1_11 hc_X2_weighAllOf_16 rfl) rfl
theorem dX2_weighAllOf_28 : decode cX2_weighAllOf 28 = .ok (.aload_n 0, 1) := o_42 (u1_12 hc_X2_weighAllOf_16 rfl) rfl
theorem dX2_weighAllOf_29 : decode cX2_weighAllOf 29 = .ok (.aload_n 1, 1) := o_43 (u1_13 hc_X2_weighAllOf_16 rfl) rfl
theorem dX2_weighAllOf_30 : decode cX2_weighAllOf 30 = .ok (.iload 4, 2) := o_21 (u1_14 hc_X2_weighAllOf_16 rfl) (u1_15 hc_X2_weighAllOf_16 rfl) rfl
theorem hc_X2_weighAllOf_32 : ((bL cX2_weighAllOf).drop 32).take 18 = [3, 182, 0, 23, 96, 62, 132, 4, 1, 167, 255, 220, 29, 172] := by decide +kernel
theorem dX2_weighAllOf_32 : decode cX2_weighAllOf 32 = .ok (.iconst 0, 1) := o_3 (u1_0 hc_X2_weighAllOf_32 rfl) rfl
theorem dX2_weighAllOf_33 : decode cX2_weighAllOf 33 = .ok (.invokevirtual 23, 3) := o_182 (u1_1 hc_X2_weighAllOf_32 rfl) (u2_d (u1_2 hc_X2_weighAllOf_32 rfl) (u1_3 hc_X2_weighAllOf_32 rfl) rfl) rfl
theorem dX2_weighAllOf_36 : decode cX2_weighAllOf 36 = .ok (.iadd, 1) := o_96 (u1_4 hc_X2_weighAllOf_32 rfl) rfl
theorem dX2_weighAllOf_37 : decode cX2_weighAllOf 37 = .ok (.istore_n 3, 1) := o_62 (u1_5 hc_X2_weighAllOf_32 rfl) rfl
theorem dX2_weighAllOf_38 : decode cX2_weighAllOf 38 = .ok (.iinc 4 1, 3) := o_132 (u1_6 hc_X2_weighAllOf_32 rfl) (u1_7 hc_X2_weighAllOf_32 rfl) (s1_d (u1_8 hc_X2_weighAllOf_32 rfl) rfl) rfl
theorem dX2_weighAllOf_41 : decode cX2_weighAllOf 41 = .ok (.goto (-36), 3) := o_167 (u1_9 hc_X2_weighAllOf_32 rfl) (s2_d (u2_d (u1_10 hc_X2_weighAllOf_32 rfl) (u1_11 hc_X2_weighAllOf_32 rfl) rfl) rfl) rfl
theorem dX2_weighAllOf_44 : decode cX2_weighAllOf 44 = .ok (.iload_n 3, 1) := o_29 (u1_12 hc_X2_weighAllOf_32 rfl) rfl
theorem dX2_weighAllOf_45 : decode cX2_weighAllOf 45 = .ok (.ireturn, 1) := o_172 (u1_13 hc_X2_weighAllOf_32 rfl) rfl
theorem hc_X2_weighBy_0 : ((bL cX2_weighBy).drop 0).take 18 = [29, 16, 30, 164, 0, 5, 3, 172, 42, 180, 0, 15, 28, 182, 0, 42, 54, 4] := by decide +kernel
theorem dX2_weighBy_0 : decode cX2_weighBy 0 = .ok (.iload_n 3, 1) := o_29 (u1_0 hc_X2_weighBy_0 rfl) rfl
theorem dX2_weighBy_1 : decode cX2_weighBy 1 = .ok (.bipush 30, 2) := o_16 (u1_1 hc_X2_weighBy_0 rfl) (s1_d (u1_2 hc_X2_weighBy_0 rfl) rfl) rfl
theorem dX2_weighBy_3 : decode cX2_weighBy 3 = .ok (.if_icmp .le 5, 3) := o_164 (u1_3 hc_X2_weighBy_0 rfl) (s2_d (u2_d (u1_4 hc_X2_weighBy_0 rfl) (u1_5 hc_X2_weighBy_0 rfl) rfl) rfl) rfl
theorem dX2_weighBy_6 : decode cX2_weighBy 6 = .ok (.iconst 0, 1) := o_3 (u1_6 hc_X2_weighBy_0 rfl) rfl
theorem dX2_weighBy_7 : decode cX2_weighBy 7 = .ok (.ireturn, 1) := o_172 (u1_7 hc_X2_weighBy_0 rfl) rfl
theorem dX2_weighBy_8 : decode cX2_weighBy 8 = .ok (.aload_n 0, 1) := o_42 (u1_8 hc_X2_weighBy_0 rfl) rfl
theorem dX2_weighBy_9 : decode cX2_weighBy 9 = .ok (.getfield 15, 3) := o_180 (u1_9 hc_X2_weighBy_0 rfl) (u2_d (u1_10 hc_X2_weighBy_0 rfl) (u1_11 hc_X2_weighBy_0 rfl) rfl) rfl
theorem dX2_weighBy_12 : decode cX2_weighBy 12 = .ok (.iload_n 2, 1) := o_28 (u1_12 hc_X2_weighBy_0 rfl) rfl
theorem dX2_weighBy_13 : decode cX2_weighBy 13 = .ok (.invokevirtual 42, 3) := o_182 (u1_13 hc_X2_weighBy_0 rfl) (u2_d (u1_14 hc_X2_weighBy_0 rfl) (u1_15 hc_X2_weighBy_0 rfl) rfl) rfl
theorem hc_X2_weighBy_16 : ((bL cX2_weighBy).drop 16).take 18 = [54, 4, 42, 21, 4, 182, 0, 45, 42, 180, 0, 15, 180, 0, 49, 28, 46, 54] := by decide +kernel
theorem dX2_weighBy_16 : decode cX2_weighBy 16 = .ok (.istore 4, 2) := o_54 (u1_0 hc_X2_weighBy_16 rfl) (u1_1 hc_X2_weighBy_16 rfl) rfl
theorem dX2_weighBy_18 : decode cX2_weighBy 18 = .ok (.aload_n 0, 1) := o_42 (u1_2 hc_X2_weighBy_16 rfl) rfl
theorem dX2_weighBy_19 : decode cX2_weighBy 19 = .ok (.iload 4, 2) := o_21 (u1_3 hc_X2_weighBy_16 rfl) (u1_4 hc_X2_weighBy_16 rfl) rfl
theorem dX2_weighBy_21 : decode cX2_weighBy 21 = .ok (.invokevirtual 45, 3) := o_182 (u1_5 hc_X2_weighBy_16 rfl) (u2_d (u1_6 hc_X2_weighBy_16 rfl) (u1_7 hc_X2_weighBy_16 rfl) rfl) rfl
theorem dX2_weighBy_24 : decode cX2_weighBy 24 = .ok (.aload_n 0, 1) := o_42 (u1_8 hc_X2_weighBy_16 rfl) rfl
theorem dX2_weighBy_25 : decode cX2_weighBy 25 = .ok (.getfield 15, 3) := o_180 (u1_9 hc_X2_weighBy_16 rfl) (u2_d (u1_10 hc_X2_weighBy_16 rfl) (u1_11 hc_X2_weighBy_16 rfl) rfl) rfl
theorem dX2_weighBy_28 : decode cX2_weighBy 28 = .ok (.getfield 49, 3) := o_180 (u1_12 hc_X2_weighBy_16 rfl) (u2_d (u1_13 hc_X2_weighBy_16 rfl) (u1_14 hc_X2_weighBy_16 rfl) rfl) rfl
theorem dX2_weighBy_31 : decode cX2_weighBy 31 = .ok (.iload_n 2, 1) := o_28 (u1_15 hc_X2_weighBy_16 rfl) rfl
theorem hc_X2_weighBy_32 : ((bL cX2_weighBy).drop 32).take 18 = [46, 54, 5, 21, 4, 170, 0, 0, 0, 0, 0, 84, 0, 0, 0, 2, 0, 0] := by decide +kernel
theorem dX2_weighBy_32 : decode cX2_weighBy 32 = .ok (.iaload, 1) := o_46 (u1_0 hc_X2_weighBy_32 rfl) rfl
theorem dX2_weighBy_33 : decode cX2_weighBy 33 = .ok (.istore 5, 2) := o_54 (u1_1 hc_X2_weighBy_32 rfl) (u1_2 hc_X2_weighBy_32 rfl) rfl
theorem dX2_weighBy_35 : decode cX2_weighBy 35 = .ok (.iload 4, 2) := o_21 (u1_3 hc_X2_weighBy_32 rfl) (u1_4 hc_X2_weighBy_32 rfl) rfl
theorem dX2_weighBy_37 : decode cX2_weighBy 37 = .ok (.tableswitch 84 2 5 #[59, 31, 45, 77], 31) := by decide +kernel
theorem hc_X2_weighBy_64 : ((bL cX2_weighBy).drop 64).take 18 = [0, 0, 0, 77, 21, 5, 42, 43, 3, 28, 29, 182, 0, 52, 96, 167, 0, 44] := by decide +kernel
theorem dX2_weighBy_68 : decode cX2_weighBy 68 = .ok (.iload 5, 2) := o_21 (u1_4 hc_X2_weighBy_64 rfl) (u1_5 hc_X2_weighBy_64 rfl) rfl
theorem dX2_weighBy_70 : decode cX2_weighBy 70 = .ok (.aload_n 0, 1) := o_42 (u1_6 hc_X2_weighBy_64 rfl) rfl
theorem dX2_weighBy_71 : decode cX2_weighBy 71 = .ok (.aload_n 1, 1) := o_43 (u1_7 hc_X2_weighBy_64 rfl) rfl
theorem dX2_weighBy_72 : decode cX2_weighBy 72 = .ok (.iconst 0, 1) := o_3 (u1_8 hc_X2_weighBy_64 rfl) rfl
theorem dX2_weighBy_73 : decode cX2_weighBy 73 = .ok (.iload_n 2, 1) := o_28 (u1_9 hc_X2_weighBy_64 rfl) rfl
theorem dX2_weighBy_74 : decode cX2_weighBy 74 = .ok (.iload_n 3, 1) := o_29 (u1_10 hc_X2_weighBy_64 rfl) rfl
theorem dX2_weighBy_75 : decode cX2_weighBy 75 = .ok (.invokevirtual 52, 3) := o_182 (u1_11 hc_X2_weighBy_64 rfl) (u2_d (u1_12 hc_X2_weighBy_64 rfl) (u1_13 hc_X2_weighBy_64 rfl) rfl) rfl
theorem dX2_weighBy_78 : decode cX2_weighBy 78 = .ok (.iadd, 1) := o_96 (u1_14 hc_X2_weighBy_64 rfl) rfl
theorem dX2_weighBy_79 : decode cX2_weighBy 79 = .ok (.goto 44, 3) := o_167 (u1_15 hc_X2_weighBy_64 rfl) (s2_d (u2_d (u1_16 hc_X2_weighBy_64 rfl) (u1_17 hc_X2_weighBy_64 rfl) rfl) rfl) rfl
theorem hc_X2_weighBy_80 : ((bL cX2_weighBy).drop 80).take 18 = [0, 44, 21, 5, 42, 43, 4, 28, 29, 182, 0, 52, 96, 167, 0, 30, 21, 5] := by decide +kernel
theorem dX2_weighBy_82 : decode cX2_weighBy 82 = .ok (.iload 5, 2) := o_21 (u1_2 hc_X2_weighBy_80 rfl) (u1_3 hc_X2_weighBy_80 rfl) rfl
theorem dX2_weighBy_84 : decode cX2_weighBy 84 = .ok (.aload_n 0, 1) := o_42 (u1_4 hc_X2_weighBy_80 rfl) rfl
theorem dX2_weighBy_85 : decode cX2_weighBy 85 = .ok (.aload_n 1, 1) := o_43 (u1_5 hc_X2_weighBy_80 rfl) rfl
theorem dX2_weighBy_86 : decode cX2_weighBy 86 = .ok (.iconst 1, 1) := o_4 (u1_6 hc_X2_weighBy_80 rfl) rfl
theorem dX2_weighBy_87 : decode cX2_weighBy 87 = .ok (.iload_n 2, 1) := o_28 (u1_7 hc_X2_weighBy_80 rfl) rfl
theorem dX2_weighBy_88 : decode cX2_weighBy 88 = .ok (.iload_n 3, 1) := o_29 (u1_8 hc_X2_weighBy_80 rfl) rfl
theorem dX2_weighBy_89 : decode cX2_weighBy 89 = .ok (.invokevirtual 52, 3) := o_182 (u1_9 hc_X2_weighBy_80 rfl) (u2_d (u1_10 hc_X2_weighBy_80 rfl) (u1_11 hc_X2_weighBy_80 rfl) rfl) rfl
theorem dX2_weighBy_92 : decode cX2_weighBy 92 = .ok (.iadd, 1) := o_96 (u1_12 hc_X2_weighBy_80 rfl) rfl
theorem dX2_weighBy_93 : decode cX2_weighBy 93 = .ok (.goto 30, 3) := o_167 (u1_13 hc_X2_weighBy_80 rfl) (s2_d (u2_d (u1_14 hc_X2_weighBy_80 rfl) (u1_15 hc_X2_weighBy_80 rfl) rfl) rfl) rfl
theorem hc_X2_weighBy_96 : ((bL cX2_weighBy).drop 96).take 18 = [21, 5, 154, 0, 8, 16, 247, 167, 0, 20, 16, 100, 21, 5, 108, 167, 0, 12] := by decide +kernel
theorem dX2_weighBy_96 : decode cX2_weighBy 96 = .ok (.iload 5, 2) := o_21 (u1_0 hc_X2_weighBy_96 rfl) (u1_1 hc_X2_weighBy_96 rfl) rfl
theorem dX2_weighBy_98 : decode cX2_weighBy 98 = .ok (.ifCond .ne 8, 3) := o_154 (u1_2 hc_X2_weighBy_96 rfl) (s2_d (u2_d (u1_3 hc_X2_weighBy_96 rfl) (u1_4 hc_X2_weighBy_96 rfl) rfl) rfl) rfl
theorem dX2_weighBy_101 : decode cX2_weighBy 101 = .ok (.bipush (-9), 2) := o_16 (u1_5 hc_X2_weighBy_96 rfl) (s1_d (u1_6 hc_X2_weighBy_96 rfl) rfl) rfl
theorem dX2_weighBy_103 : decode cX2_weighBy 103 = .ok (.goto 20, 3) := o_167 (u1_7 hc_X2_weighBy_96 rfl) (s2_d (u2_d (u1_8 hc_X2_weighBy_96 rfl) (u1_9 hc_X2_weighBy_96 rfl) rfl) rfl) rfl
theorem dX2_weighBy_106 : decode cX2_weighBy 106 = .ok (.bipush 100, 2) := o_16 (u1_10 hc_X2_weighBy_96 rfl) (s1_d (u1_11 hc_X2_weighBy_96 rfl) rfl) rfl
theorem dX2_weighBy_108 : decode cX2_weighBy 108 = .ok (.iload 5, 2) := o_21 (u1_12 hc_X2_weighBy_96 rfl) (u1_13 hc_X2_weighBy_96 rfl) rfl
theorem dX2_weighBy_110 : decode cX2_weighBy 110 = .ok (.idiv, 1) := o_108 (u1_14 hc_X2_weighBy_96 rfl) rfl
theorem dX2_weighBy_111 : decode cX2_weighBy 111 = .ok (.goto 12, 3) := o_167 (u1_15 hc_X2_weighBy_96 rfl) (s2_d (u2_d (u1_16 hc_X2_weighBy_96 rfl) (u1_17 hc_X2_weighBy_96 rfl) rfl) rfl) rfl
theorem hc_X2_weighBy_112 : ((bL cX2_weighBy).drop 112).take 18 = [0, 12, 5, 21, 5, 104, 167, 0, 5, 21, 5, 172] := by decide +kernel
theorem dX2_weighBy_114 : decode cX2_weighBy 114 = .ok (.iconst 2, 1) := o_5 (u1_2 hc_X2_weighBy_112 rfl) rfl
theorem dX2_weighBy_115 : decode cX2_weighBy 115 = .ok (.iload 5, 2) := o_21 (u1_3 hc_X2_weighBy_112 rfl) (u1_4 hc_X2_weighBy_112 rfl) rfl
theorem dX2_weighBy_117 : decode cX2_weighBy 117 = .ok (.imul, 1) := o_104 (u1_5 hc_X2_weighBy_112 rfl) rfl
theorem dX2_weighBy_118 : decode cX2_weighBy 118 = .ok (.goto 5, 3) := o_167 (u1_6 hc_X2_weighBy_112 rfl) (s2_d (u2_d (u1_7 hc_X2_weighBy_112 rfl) (u1_8 hc_X2_weighBy_112 rfl) rfl) rfl) rfl
theorem dX2_weighBy_121 : decode cX2_weighBy 121 = .ok (.iload 5, 2) := o_21 (u1_9 hc_X2_weighBy_112 rfl) (u1_10 hc_X2_weighBy_112 rfl) rfl
theorem dX2_weighBy_123 : decode cX2_weighBy 123 = .ok (.ireturn, 1) := o_172 (u1_11 hc_X2_weighBy_112 rfl) rfl
theorem hc_X2_weighThose_0 : ((bL cX2_weighThose).drop 0).take 18 = [3, 54, 5, 3, 54, 6, 21, 6, 42, 180, 0, 15, 180, 0, 31, 162, 0, 36] := by decide +kernel
theorem dX2_weighThose_0 : decode cX2_weighThose 0 = .ok (.iconst 0, 1) := o_3 (u1_0 hc_X2_weighThose_0 rfl) rfl
theorem dX2_weighThose_1 : decode cX2_weighThose 1 = .ok (.istore 5, 2) := o_54 (u1_1 hc_X2_weighThose_0 rfl) (u1_2 hc_X2_weighThose_0 rfl) rfl
theorem dX2_weighThose_3 : decode cX2_weighThose 3 = .ok (.iconst 0, 1) := o_3 (u1_3 hc_X2_weighThose_0 rfl) rfl
theorem dX2_weighThose_4 : decode cX2_weighThose 4 = .ok (.istore 6, 2) := o_54 (u1_4 hc_X2_weighThose_0 rfl) (u1_5 hc_X2_weighThose_0 rfl) rfl
theorem dX2_weighThose_6 : decode cX2_weighThose 6 = .ok (.iload 6, 2) := o_21 (u1_6 hc_X2_weighThose_0 rfl) (u1_7 hc_X2_weighThose_0 rfl) rfl
theorem dX2_weighThose_8 : decode cX2_weighThose 8 = .ok (.aload_n 0, 1) := o_42 (u1_8 hc_X2_weighThose_0 rfl) rfl
theorem dX2_weighThose_9 : decode cX2_weighThose 9 = .ok (.getfield 15, 3) := o_180 (u1_9 hc_X2_weighThose_0 rfl) (u2_d (u1_10 hc_X2_weighThose_0 rfl) (u1_11 hc_X2_weighThose_0 rfl) rfl) rfl
theorem dX2_weighThose_12 : decode cX2_weighThose 12 = .ok (.getfield 31, 3) := o_180 (u1_12 hc_X2_weighThose_0 rfl) (u2_d (u1_13 hc_X2_weighThose_0 rfl) (u1_14 hc_X2_weighThose_0 rfl) rfl) rfl
theorem dX2_weighThose_15 : decode cX2_weighThose 15 = .ok (.if_icmp .ge 36, 3) := o_162 (u1_15 hc_X2_weighThose_0 rfl) (s2_d (u2_d (u1_16 hc_X2_weighThose_0 rfl) (u1_17 hc_X2_weighThose_0 rfl) rfl) rfl) rfl
theorem hc_X2_weighThose_16 : ((bL cX2_weighThose).drop 16).take 18 = [0, 36, 43, 21, 6, 28, 29, 182, 0, 56, 153, 0, 19, 21, 5, 42, 43, 21] := by decide +kernel
theorem dX2_weighThose_18 : decode cX2_weighThose 18 = .ok (.aload_n 1, 1) := o_43 (u1_2 hc_X2_weighThose_16 rfl) rfl
theorem dX2_weighThose_19 : decode cX2_weighThose 19 = .ok (.iload 6, 2) := o_21 (u1_3 hc_X2_weighThose_16 rfl) (u1_4 hc_X2_weighThose_16 rfl) rfl
theorem dX2_weighThose_21 : decode cX2_weighThose 21 = .ok (.iload_n 2, 1) := o_28 (u1_5 hc_X2_weighThose_16 rfl) rfl
theorem dX2_weighThose_22 : decode cX2_weighThose 22 = .ok (.iload_n 3, 1) := o_29 (u1_6 hc_X2_weighThose_16 rfl) rfl
theorem dX2_weighThose_23 : decode cX2_weighThose 23 = .ok (.invokevirtual 56, 3) := o_182 (u1_7 hc_X2_weighThose_16 rfl) (u2_d (u1_8 hc_X2_weighThose_16 rfl) (u1_9 hc_X2_weighThose_16 rfl) rfl) rfl
theorem dX2_weighThose_26 : decode cX2_weighThose 26 = .ok (.ifCond .eq 19, 3) := o_153 (u1_10 hc_X2_weighThose_16 rfl) (s2_d (u2_d (u1_11 hc_X2_weighThose_16 rfl) (u1_12 hc_X2_weighThose_16 rfl) rfl) rfl) rfl
theorem dX2_weighThose_29 : decode cX2_weighThose 29 = .ok (.iload 5, 2) := o_21 (u1_13 hc_X2_weighThose_16 rfl) (u1_14 hc_X2_weighThose_16 rfl) rfl
theorem dX2_weighThose_31 : decode cX2_weighThose 31 = .ok (.aload_n 0, 1) := o_42 (u1_15 hc_X2_weighThose_16 rfl) rfl
theorem hc_X2_weighThose_32 : ((bL cX2_weighThose).drop 32).take 18 = [43, 21, 6, 21, 4, 4, 96, 182, 0, 23, 96, 54, 5, 132, 6, 1, 167, 255] := by decide +kernel
theorem dX2_weighThose_32 : decode cX2_weighThose 32 = .ok (.aload_n 1, 1) := o_43 (u1_0 hc_X2_weighThose_32 rfl) rfl
theorem dX2_weighThose_33 : decode cX2_weighThose 33 = .ok (.iload 6, 2) := o_21 (u1_1 hc_X2_weighThose_32 rfl) (u1_2 hc_X2_weighThose_32 rfl) rfl
theorem dX2_weighThose_35 : decode cX2_weighThose 35 = .ok (.iload 4, 2) := o_21 (u1_3 hc_X2_weighThose_32 rfl) (u1_4 hc_X2_weighThose_32 rfl) rfl
theorem dX2_weighThose_37 : decode cX2_weighThose 37 = .ok (.iconst 1, 1) := o_4 (u1_5 hc_X2_weighThose_32 rfl) rfl
theorem dX2_weighThose_38 : decode cX2_weighThose 38 = .ok (.iadd, 1) := o_96 (u1_6 hc_X2_weighThose_32 rfl) rfl
theorem dX2_weighThose_39 : decode cX2_weighThose 39 = .ok (.invokevirtual 23, 3) := o_182 (u1_7 hc_X2_weighThose_32 rfl) (u2_d (u1_8 hc_X2_weighThose_32 rfl) (u1_9 hc_X2_weighThose_32 rfl) rfl) rfl
theorem dX2_weighThose_42 : decode cX2_weighThose 42 = .ok (.iadd, 1) := o_96 (u1_10 hc_X2_weighThose_32 rfl) rfl
theorem dX2_weighThose_43 : decode cX2_weighThose 43 = .ok (.istore 5, 2) := o_54 (u1_11 hc_X2_weighThose_32 rfl) (u1_12 hc_X2_weighThose_32 rfl) rfl
theorem dX2_weighThose_45 : decode cX2_weighThose 45 = .ok (.iinc 6 1, 3) := o_132 (u1_13 hc_X2_weighThose_32 rfl) (u1_14 hc_X2_weighThose_32 rfl) (s1_d (u1_15 hc_X2_weighThose_32 rfl) rfl) rfl
theorem hc_X2_weighThose_48 : ((bL cX2_weighThose).drop 48).take 18 = [167, 255, 214, 21, 5, 172] := by decide +kernel
theorem dX2_weighThose_48 : decode cX2_weighThose 48 = .ok (.goto (-42), 3) := o_167 (u1_0 hc_X2_weighThose_48 rfl) (s2_d (u2_d (u1_1 hc_X2_weighThose_48 rfl) (u1_2 hc_X2_weighThose_48 rfl) rfl) rfl) rfl
theorem dX2_weighThose_51 : decode cX2_weighThose 51 = .ok (.iload 5, 2) := o_21 (u1_3 hc_X2_weighThose_48 rfl) (u1_4 hc_X2_weighThose_48 rfl) rfl
theorem dX2_weighThose_53 : decode cX2_weighThose 53 = .ok (.ireturn, 1) := o_172 (u1_5 hc_X2_weighThose_48 rfl) rfl
theorem hc_X2_noteBodies_0 : ((bL cX2_noteBodies).drop 0).take 18 = [27, 6, 159, 0, 18, 27, 7, 159, 0, 13, 27, 5, 159, 0, 8, 27, 8, 160] := by decide +kernel
theorem dX2_noteBodies_0 : decode cX2_noteBodies 0 = .ok (.iload_n 1, 1) := o_27 (u1_0 hc_X2_noteBodies_0 rfl) rfl
theorem dX2_noteBodies_1 : decode cX2_noteBodies 1 = .ok (.iconst 3, 1) := o_6 (u1_1 hc_X2_noteBodies_0 rfl) rfl
theorem dX2_noteBodies_2 : decode cX2_noteBodies 2 = .ok (.if_icmp .eq 18, 3) := o_159 (u1_2 hc_X2_noteBodies_0 rfl) (s2_d (u2_d (u1_3 hc_X2_noteBodies_0 rfl) (u1_4 hc_X2_noteBodies_0 rfl) rfl) rfl) rfl
theorem dX2_noteBodies_5 : decode cX2_noteBodies 5 = .ok (.iload_n 1, 1) := o_27 (u1_5 hc_X2_noteBodies_0 rfl) rfl
theorem dX2_noteBodies_6 : decode cX2_noteBodies 6 = .ok (.iconst 4, 1) := o_7 (u1_6 hc_X2_noteBodies_0 rfl) rfl
theorem dX2_noteBodies_7 : decode cX2_noteBodies 7 = .ok (.if_icmp .eq 13, 3) := o_159 (u1_7 hc_X2_noteBodies_0 rfl) (s2_d (u2_d (u1_8 hc_X2_noteBodies_0 rfl) (u1_9 hc_X2_noteBodies_0 rfl) rfl) rfl) rfl
theorem dX2_noteBodies_10 : decode cX2_noteBodies 10 = .ok (.iload_n 1, 1) := o_27 (u1_10 hc_X2_noteBodies_0 rfl) rfl
theorem dX2_noteBodies_11 : decode cX2_noteBodies 11 = .ok (.iconst 2, 1) := o_5 (u1_11 hc_X2_noteBodies_0 rfl) rfl
theorem dX2_noteBodies_12 : decode cX2_noteBodies 12 = .ok (.if_icmp .eq 8, 3) := o_159 (u1_12 hc_X2_noteBodies_0 rfl) (s2_d (u2_d (u1_13 hc_X2_noteBodies_0 rfl) (u1_14 hc_X2_noteBodies_0 rfl) rfl) rfl) rfl
theorem dX2_noteBodies_15 : decode cX2_noteBodies 15 = .ok (.iload_n 1, 1) := o_27 (u1_15 hc_X2_noteBodies_0 rfl) rfl
theorem hc_X2_noteBodies_16 : ((bL cX2_noteBodies).drop 16).take 18 = [8, 160, 0, 12, 42, 178, 0, 60, 27, 46, 182, 0, 63, 42, 178, 0, 60, 4] := by decide +kernel
theorem dX2_noteBodies_16 : decode cX2_noteBodies 16 = .ok (.iconst 5, 1) := o_8 (u1_0 hc_X2_noteBodies_16 rfl) rfl
theorem dX2_noteBodies_17 : decode cX2_noteBodies 17 = .ok (.if_icmp .ne 12, 3) := o_160 (u1_1 hc_X2_noteBodies_16 rfl) (s2_d (u2_d (u1_2 hc_X2_noteBodies_16 rfl) (u1_3 hc_X2_noteBodies_16 rfl) rfl) rfl) rfl
theorem dX2_noteBodies_20 : decode cX2_noteBodies 20 = .ok (.aload_n 0, 1) := o_42 (u1_4 hc_X2_noteBodies_16 rfl) rfl
theorem dX2_noteBodies_21 : decode cX2_noteBodies 21 = .ok (.getstatic 60, 3) := o_178 (u1_5 hc_X2_noteBodies_16 rfl) (u2_d (u1_6 hc_X2_noteBodies_16 rfl) (u1_7 hc_X2_noteBodies_16 rfl) rfl) rfl
theorem dX2_noteBodies_24 : decode cX2_noteBodies 24 = .ok (.iload_n 1, 1) := o_27 (u1_8 hc_X2_noteBodies_16 rfl) rfl
theorem dX2_noteBodies_25 : decode cX2_noteBodies 25 = .ok (.iaload, 1) := o_46 (u1_9 hc_X2_noteBodies_16 rfl) rfl
theorem dX2_noteBodies_26 : decode cX2_noteBodies 26 = .ok (.invokevirtual 63, 3) := o_182 (u1_10 hc_X2_noteBodies_16 rfl) (u2_d (u1_11 hc_X2_noteBodies_16 rfl) (u1_12 hc_X2_noteBodies_16 rfl) rfl) rfl
theorem dX2_noteBodies_29 : decode cX2_noteBodies 29 = .ok (.aload_n 0, 1) := o_42 (u1_13 hc_X2_noteBodies_16 rfl) rfl
theorem dX2_noteBodies_30 : decode cX2_noteBodies 30 = .ok (.getstatic 60, 3) := o_178 (u1_14 hc_X2_noteBodies_16 rfl) (u2_d (u1_15 hc_X2_noteBodies_16 rfl) (u1_16 hc_X2_noteBodies_16 rfl) rfl) rfl
theorem hc_X2_noteBodies_32 : ((bL cX2_noteBodies).drop 32).take 18 = [60, 4, 46, 182, 0, 63, 177] := by decide +kernel
theorem dX2_noteBodies_33 : decode cX2_noteBodies 33 = .ok (.iconst 1, 1) := o_4 (u1_1 hc_X2_noteBodies_32 rfl) rfl
theorem dX2_noteBodies_34 : decode cX2_noteBodies 34 = .ok (.iaload, 1) := o_46 (u1_2 hc_X2_noteBodies_32 rfl) rfl
theorem dX2_noteBodies_35 : decode cX2_noteBodies 35 = .ok (.invokevirtual 63, 3) := o_182 (u1_3 hc_X2_noteBodies_32 rfl) (u2_d (u1_4 hc_X2_noteBodies_32 rfl) (u1_5 hc_X2_noteBodies_32 rfl) rfl) rfl
theorem dX2_noteBodies_38 : decode cX2_noteBodies 38 = .ok (.return_, 1) := o_177 (u1_6 hc_X2_noteBodies_32 rfl) rfl
theorem hc_X2_note_0 : ((bL cX2_note).drop 0).take 18 = [42, 180, 0, 27, 153, 0, 29, 42, 180, 0, 19, 16, 100, 162, 0, 20, 42, 180] := by decide +kernel
theorem dX2_note_0 : decode cX2_note 0 = .ok (.aload_n 0, 1) := o_42 (u1_0 hc_X2_note_0 rfl) rfl
theorem dX2_note_1 : decode cX2_note 1 = .ok (.getfield 27, 3) := o_180 (u1_1 hc_X2_note_0 rfl) (u2_d (u1_2 hc_X2_note_0 rfl) (u1_3 hc_X2_note_0 rfl) rfl) rfl
theorem dX2_note_4 : decode cX2_note 4 = .ok (.ifCond .eq 29, 3) := o_153 (u1_4 hc_X2_note_0 rfl) (s2_d (u2_d (u1_5 hc_X2_note_0 rfl) (u1_6 hc_X2_note_0 rfl) rfl) rfl) rfl
theorem dX2_note_7 : decode cX2_note 7 = .ok (.aload_n 0, 1) := o_42 (u1_7 hc_X2_note_0 rfl) rfl
theorem dX2_note_8 : decode cX2_note 8 = .ok (.getfield 19, 3) := o_180 (u1_8 hc_X2_note_0 rfl) (u2_d (u1_9 hc_X2_note_0 rfl) (u1_10 hc_X2_note_0 rfl) rfl) rfl
theorem dX2_note_11 : decode cX2_note 11 = .ok (.bipush 100, 2) := o_16 (u1_11 hc_X2_note_0 rfl) (s1_d (u1_12 hc_X2_note_0 rfl) rfl) rfl
theorem dX2_note_13 : decode cX2_note 13 = .ok (.if_icmp .ge 20, 3) := o_162 (u1_13 hc_X2_note_0 rfl) (s2_d (u2_d (u1_14 hc_X2_note_0 rfl) (u1_15 hc_X2_note_0 rfl) rfl) rfl) rfl
theorem hc_X2_note_16 : ((bL cX2_note).drop 16).take 18 = [42, 180, 0, 9, 42, 89, 180, 0, 19, 90, 4, 96, 181, 0, 19, 27, 79, 177] := by decide +kernel
theorem dX2_note_16 : decode cX2_note 16 = .ok (.aload_n 0, 1) := o_42 (u1_0 hc_X2_note_16 rfl) rfl
theorem dX2_note_17 : decode cX2_note 17 = .ok (.getfield 9, 3) := o_180 (u1_1 hc_X2_note_16 rfl) (u2_d (u1_2 hc_X2_note_16 rfl) (u1_3 hc_X2_note_16 rfl) rfl) rfl
theorem dX2_note_20 : decode cX2_note 20 = .ok (.aload_n 0, 1) := o_42 (u1_4 hc_X2_note_16 rfl) rfl
theorem dX2_note_21 : decode cX2_note 21 = .ok (.dup, 1) := o_89 (u1_5 hc_X2_note_16 rfl) rfl
theorem dX2_note_22 : decode cX2_note 22 = .ok (.getfield 19, 3) := o_180 (u1_6 hc_X2_note_16 rfl) (u2_d (u1_7 hc_X2_note_16 rfl) (u1_8 hc_X2_note_16 rfl) rfl) rfl
theorem dX2_note_25 : decode cX2_note 25 = .ok (.dup_x1, 1) := o_90 (u1_9 hc_X2_note_16 rfl) rfl
theorem dX2_note_26 : decode cX2_note 26 = .ok (.iconst 1, 1) := o_4 (u1_10 hc_X2_note_16 rfl) rfl
theorem dX2_note_27 : decode cX2_note 27 = .ok (.iadd, 1) := o_96 (u1_11 hc_X2_note_16 rfl) rfl
theorem dX2_note_28 : decode cX2_note 28 = .ok (.putfield 19, 3) := o_181 (u1_12 hc_X2_note_16 rfl) (u2_d (u1_13 hc_X2_note_16 rfl) (u1_14 hc_X2_note_16 rfl) rfl) rfl
theorem dX2_note_31 : decode cX2_note 31 = .ok (.iload_n 1, 1) := o_27 (u1_15 hc_X2_note_16 rfl) rfl
theorem hc_X2_note_32 : ((bL cX2_note).drop 32).take 18 = [79, 177] := by decide +kernel
theorem dX2_note_32 : decode cX2_note 32 = .ok (.iastore, 1) := o_79 (u1_0 hc_X2_note_32 rfl) rfl
theorem dX2_note_33 : decode cX2_note 33 = .ok (.return_, 1) := o_177 (u1_1 hc_X2_note_32 rfl) rfl
theorem hc_X3_init_0 : ((bL cX3_init).drop 0).take 18 = [42, 183, 0, 3, 42, 16, 10, 188, 10, 181, 0, 9, 42, 16, 10, 188, 10, 181] := by decide +kernel
theorem dX3_init_0 : decode cX3_init 0 = .ok (.aload_n 0, 1) := o_42 (u1_0 hc_X3_init_0 rfl) rfl
theorem dX3_init_1 : decode cX3_init 1 = .ok (.invokespecial 3, 3) := o_183 (u1_1 hc_X3_init_0 rfl) (u2_d (u1_2 hc_X3_init_0 rfl) (u1_3 hc_X3_init_0 rfl) rfl) rfl
theorem dX3_init_4 : decode cX3_init 4 = .ok (.aload_n 0, 1) := o_42 (u1_4 hc_X3_init_0 rfl) rfl
theorem dX3_init_5 : decode cX3_init 5 = .ok (.bipush 10, 2) := o_16 (u1_5 hc_X3_init_0 rfl) (s1_d (u1_6 hc_X3_init_0 rfl) rfl) rfl
theorem dX3_init_7 : decode cX3_init 7 = .ok (.newarray .int, 2) := o_188_10 (u1_7 hc_X3_init_0 rfl) (u1_8 hc_X3_init_0 rfl) rfl
theorem dX3_init_9 : decode cX3_init 9 = .ok (.putfield 9, 3) := o_181 (u1_9 hc_X3_init_0 rfl) (u2_d (u1_10 hc_X3_init_0 rfl) (u1_11 hc_X3_init_0 rfl) rfl) rfl
theorem dX3_init_12 : decode cX3_init 12 = .ok (.aload_n 0, 1) := o_42 (u1_12 hc_X3_init_0 rfl) rfl
theorem dX3_init_13 : decode cX3_init 13 = .ok (.bipush 10, 2) := o_16 (u1_13 hc_X3_init_0 rfl) (s1_d (u1_14 hc_X3_init_0 rfl) rfl) rfl
theorem dX3_init_15 : decode cX3_init 15 = .ok (.newarray .int, 2) := o_188_10 (u1_15 hc_X3_init_0 rfl) (u1_16 hc_X3_init_0 rfl) rfl
theorem hc_X3_init_16 : ((bL cX3_init).drop 16).take 18 = [10, 181, 0, 15, 42, 16, 120, 188, 10, 181, 0, 18, 42, 180, 0, 18, 16, 247] := by decide +kernel
theorem dX3_init_17 : decode cX3_init 17 = .ok (.putfield 15, 3) := o_181 (u1_1 hc_X3_init_16 rfl) (u2_d (u1_2 hc_X3_init_16 rfl) (u1_3 hc_X3_init_16 rfl) rfl) rfl
theorem dX3_init_20 : decode cX3_init 20 = .ok (.aload_n 0, 1) := o_42 (u1_4 hc_X3_init_16 rfl) rfl
theorem dX3_init_21 : decode cX3_init 21 = .ok (.bipush 120, 2) := o_16 (u1_5 hc_X3_init_16 rfl) (s1_d (u1_6 hc_X3_init_16 rfl) rfl) rfl
theorem dX3_init_23 : decode cX3_init 23 = .ok (.newarray .int, 2) := o_188_10 (u1_7 hc_X3_init_16 rfl) (u1_8 hc_X3_init_16 rfl) rfl
theorem dX3_init_25 : decode cX3_init 25 = .ok (.putfield 18, 3) := o_181 (u1_9 hc_X3_init_16 rfl) (u2_d (u1_10 hc_X3_init_16 rfl) (u1_11 hc_X3_init_16 rfl) rfl) rfl
theorem dX3_init_28 : decode cX3_init 28 = .ok (.aload_n 0, 1) := o_42 (u1_12 hc_X3_init_16 rfl) rfl
theorem dX3_init_29 : decode cX3_init 29 = .ok (.getfield 18, 3) := o_180 (u1_13 hc_X3_init_16 rfl) (u2_d (u1_14 hc_X3_init_16 rfl) (u1_15 hc_X3_init_16 rfl) rfl) rfl
theorem hc_X3_init_32 : ((bL cX3_init).drop 32).take 18 = [16, 247, 184, 0, 21, 177] := by decide +kernel
theorem dX3_init_32 : decode cX3_init 32 = .ok (.bipush (-9), 2) := o_16 (u1_0 hc_X3_init_32 rfl) (s1_d (u1_1 hc_X3_init_32 rfl) rfl) rfl
theorem dX3_init_34 : decode cX3_init 34 = .ok (.invokestatic 21, 3) := o_184 (u1_2 hc_X3_init_32 rfl) (u2_d (u1_3 hc_X3_init_32 rfl) (u1_4 hc_X3_init_32 rfl) rfl) rfl
theorem dX3_init_37 : decode cX3_init 37 = .ok (.return_, 1) := o_177 (u1_5 hc_X3_init_32 rfl) rfl
theorem hc_X3_open_0 : ((bL cX3_open).drop 0).take 18 = [42, 180, 0, 9, 42, 180, 0, 27, 27, 79, 42, 180, 0, 15, 42, 180, 0, 27] := by decide +kernel
theorem dX3_open_0 : decode cX3_open 0 = .ok (.aload_n 0, 1) := o_42 (u1_0 hc_X3_open_0 rfl) rfl
theorem dX3_open_1 : decode cX3_open 1 = .ok (.getfield 9, 3) := o_180 (u1_1 hc_X3_open_0 rfl) (u2_d (u1_2 hc_X3_open_0 rfl) (u1_3 hc_X3_open_0 rfl) rfl) rfl
theorem dX3_open_4 : decode cX3_open 4 = .ok (.aload_n 0, 1) := o_42 (u1_4 hc_X3_open_0 rfl) rfl
theorem dX3_open_5 : decode cX3_open 5 = .ok (.getfield 27, 3) := o_180 (u1_5 hc_X3_open_0 rfl) (u2_d (u1_6 hc_X3_open_0 rfl) (u1_7 hc_X3_open_0 rfl) rfl) rfl
theorem dX3_open_8 : decode cX3_open 8 = .ok (.iload_n 1, 1) := o_27 (u1_8 hc_X3_open_0 rfl) rfl
theorem dX3_open_9 : decode cX3_open 9 = .ok (.iastore, 1) := o_79 (u1_9 hc_X3_open_0 rfl) rfl
theorem dX3_open_10 : decode cX3_open 10 = .ok (.aload_n 0, 1) := o_42 (u1_10 hc_X3_open_0 rfl) rfl
theorem dX3_open_11 : decode cX3_open 11 = .ok (.getfield 15, 3) := o_180 (u1_11 hc_X3_open_0 rfl) (u2_d (u1_12 hc_X3_open_0 rfl) (u1_13 hc_X3_open_0 rfl) rfl) rfl
theorem dX3_open_14 : decode cX3_open 14 = .ok (.aload_n 0, 1) := o_42 (u1_14 hc_X3_open_0 rfl) rfl
theorem dX3_open_15 : decode cX3_open 15 = .ok (.getfield 27, 3) := o_180 (u1_15 hc_X3_open_0 rfl) (u2_d (u1_16 hc_X3_open_0 rfl) (u1_17 hc_X3_open_0 rfl) rfl) rfl
theorem hc_X3_open_16 : ((bL cX3_open).drop 16).take 18 = [0, 27, 28, 79, 42, 89, 180, 0, 27, 90, 4, 96, 181, 0, 27, 172] := by decide +kernel
theorem dX3_open_18 : decode cX3_open 18 = .ok (.iload_n 2, 1) := o_28 (u1_2 hc_X3_open_16 rfl) rfl
theorem dX3_open_19 : decode cX3_open 19 = .ok (.iastore, 1) := o_79 (u1_3 hc_X3_open_16 rfl) rfl
theorem dX3_open_20 : decode cX3_open 20 = .ok (.aload_n 0, 1) := o_42 (u1_4 hc_X3_open_16 rfl) rfl
theorem dX3_open_21 : decode cX3_open 21 = .ok (.dup, 1) := o_89 (u1_5 hc_X3_open_16 rfl) rfl
theorem dX3_open_22 : decode cX3_open 22 = .ok (.getfield 27, 3) := o_180 (u1_6 hc_X3_open_16 rfl) (u2_d (u1_7 hc_X3_open_16 rfl) (u1_8 hc_X3_open_16 rfl) rfl) rfl
theorem dX3_open_25 : decode cX3_open 25 = .ok (.dup_x1, 1) := o_90 (u1_9 hc_X3_open_16 rfl) rfl
theorem dX3_open_26 : decode cX3_open 26 = .ok (.iconst 1, 1) := o_4 (u1_10 hc_X3_open_16 rfl) rfl
theorem dX3_open_27 : decode cX3_open 27 = .ok (.iadd, 1) := o_96 (u1_11 hc_X3_open_16 rfl) rfl
theorem dX3_open_28 : decode cX3_open 28 = .ok (.putfield 27, 3) := o_181 (u1_12 hc_X3_open_16 rfl) (u2_d (u1_13 hc_X3_open_16 rfl) (u1_14 hc_X3_open_16 rfl) rfl) rfl
theorem dX3_open_31 : decode cX3_open 31 = .ok (.ireturn, 1) := o_172 (u1_15 hc_X3_open_16 rfl) rfl
theorem hc_X4_init_0 : ((bL cX4_init).drop 0).take 18 = [42, 183, 0, 3, 42, 16, 30, 188, 10, 181, 0, 9, 42, 16, 30, 188, 10, 181] := by decide +kernel
theorem dX4_init_0 : decode cX4_init 0 = .ok (.aload_n 0, 1) := o_42 (u1_0 hc_X4_init_0 rfl) rfl
theorem dX4_init_1 : decode cX4_init 1 = .ok (.invokespecial 3, 3) := o_183 (u1_1 hc_X4_init_0 rfl) (u2_d (u1_2 hc_X4_init_0 rfl) (u1_3 hc_X4_init_0 rfl) rfl) rfl
theorem dX4_init_4 : decode cX4_init 4 = .ok (.aload_n 0, 1) := o_42 (u1_4 hc_X4_init_0 rfl) rfl
theorem dX4_init_5 : decode cX4_init 5 = .ok (.bipush 30, 2) := o_16 (u1_5 hc_X4_init_0 rfl) (s1_d (u1_6 hc_X4_init_0 rfl) rfl) rfl
theorem dX4_init_7 : decode cX4_init 7 = .ok (.newarray .int, 2) := o_188_10 (u1_7 hc_X4_init_0 rfl) (u1_8 hc_X4_init_0 rfl) rfl
theorem dX4_init_9 : decode cX4_init 9 = .ok (.putfield 9, 3) := o_181 (u1_9 hc_X4_init_0 rfl) (u2_d (u1_10 hc_X4_init_0 rfl) (u1_11 hc_X4_init_0 rfl) rfl) rfl
theorem dX4_init_12 : decode cX4_init 12 = .ok (.aload_n 0, 1) := o_42 (u1_12 hc_X4_init_0 rfl) rfl
theorem dX4_init_13 : decode cX4_init 13 = .ok (.bipush 30, 2) := o_16 (u1_13 hc_X4_init_0 rfl) (s1_d (u1_14 hc_X4_init_0 rfl) rfl) rfl
theorem dX4_init_15 : decode cX4_init 15 = .ok (.newarray .int, 2) := o_188_10 (u1_15 hc_X4_init_0 rfl) (u1_16 hc_X4_init_0 rfl) rfl
theorem hc_X4_init_16 : ((bL cX4_init).drop 16).take 18 = [10, 181, 0, 15, 42, 17, 1, 104, 188, 11, 181, 0, 18, 42, 180, 0, 9, 16] := by decide +kernel
theorem dX4_init_17 : decode cX4_init 17 = .ok (.putfield 15, 3) := o_181 (u1_1 hc_X4_init_16 rfl) (u2_d (u1_2 hc_X4_init_16 rfl) (u1_3 hc_X4_init_16 rfl) rfl) rfl
theorem dX4_init_20 : decode cX4_init 20 = .ok (.aload_n 0, 1) := o_42 (u1_4 hc_X4_init_16 rfl) rfl
theorem dX4_init_21 : decode cX4_init 21 = .ok (.sipush 360, 3) := o_17 (u1_5 hc_X4_init_16 rfl) (s2_d (u2_d (u1_6 hc_X4_init_16 rfl) (u1_7 hc_X4_init_16 rfl) rfl) rfl) rfl
theorem dX4_init_24 : decode cX4_init 24 = .ok (.newarray .long, 2) := o_188_11 (u1_8 hc_X4_init_16 rfl) (u1_9 hc_X4_init_16 rfl) rfl
theorem dX4_init_26 : decode cX4_init 26 = .ok (.putfield 18, 3) := o_181 (u1_10 hc_X4_init_16 rfl) (u2_d (u1_11 hc_X4_init_16 rfl) (u1_12 hc_X4_init_16 rfl) rfl) rfl
theorem dX4_init_29 : decode cX4_init 29 = .ok (.aload_n 0, 1) := o_42 (u1_13 hc_X4_init_16 rfl) rfl
theorem dX4_init_30 : decode cX4_init 30 = .ok (.getfield 9, 3) := o_180 (u1_14 hc_X4_init_16 rfl) (u2_d (u1_15 hc_X4_init_16 rfl) (u1_16 hc_X4_init_16 rfl) rfl) rfl
theorem hc_X4_init_32 : ((bL cX4_init).drop 32).take 18 = [9, 16, 247, 184, 0, 22, 177] := by decide +kernel
theorem dX4_init_33 : decode cX4_init 33 = .ok (.bipush (-9), 2) := o_16 (u1_1 hc_X4_init_32 rfl) (s1_d (u1_2 hc_X4_init_32 rfl) rfl) rfl
theorem dX4_init_35 : decode cX4_init 35 = .ok (.invokestatic 22, 3) := o_184 (u1_3 hc_X4_init_32 rfl) (u2_d (u1_4 hc_X4_init_32 rfl) (u1_5 hc_X4_init_32 rfl) rfl) rfl
theorem dX4_init_38 : decode cX4_init 38 = .ok (.return_, 1) := o_177 (u1_6 hc_X4_init_32 rfl) rfl
theorem hc_X4_lay_0 : ((bL cX4_lay).drop 0).take 18 = [42, 180, 0, 9, 27, 28, 79, 42, 180, 0, 15, 27, 29, 79, 3, 54, 4, 21] := by decide +kernel
theorem dX4_lay_0 : decode cX4_lay 0 = .ok (.aload_n 0, 1) := o_42 (u1_0 hc_X4_lay_0 rfl) rfl
theorem dX4_lay_1 : decode cX4_lay 1 = .ok (.getfield 9, 3) := o_180 (u1_1 hc_X4_lay_0 rfl) (u2_d (u1_2 hc_X4_lay_0 rfl) (u1_3 hc_X4_lay_0 rfl) rfl) rfl
theorem dX4_lay_4 : decode cX4_lay 4 = .ok (.iload_n 1, 1) := o_27 (u1_4 hc_X4_lay_0 rfl) rfl
theorem dX4_lay_5 : decode cX4_lay 5 = .ok (.iload_n 2, 1) := o_28 (u1_5 hc_X4_lay_0 rfl) rfl
theorem dX4_lay_6 : decode cX4_lay 6 = .ok (.iastore, 1) := o_79 (u1_6 hc_X4_lay_0 rfl) rfl
theorem dX4_lay_7 : decode cX4_lay 7 = .ok (.aload_n 0, 1) := o_42 (u1_7 hc_X4_lay_0 rfl) rfl
theorem dX4_lay_8 : decode cX4_lay 8 = .ok (.getfield 15, 3) := o_180 (u1_8 hc_X4_lay_0 rfl) (u2_d (u1_9 hc_X4_lay_0 rfl) (u1_10 hc_X4_lay_0 rfl) rfl) rfl
theorem dX4_lay_11 : decode cX4_lay 11 = .ok (.iload_n 1, 1) := o_27 (u1_11 hc_X4_lay_0 rfl) rfl
theorem dX4_lay_12 : decode cX4_lay 12 = .ok (.iload_n 3, 1) := o_29 (u1_12 hc_X4_lay_0 rfl) rfl
theorem dX4_lay_13 : decode cX4_lay 13 = .ok (.iastore, 1) := o_79 (u1_13 hc_X4_lay_0 rfl) rfl
theorem dX4_lay_14 : decode cX4_lay 14 = .ok (.iconst 0, 1) := o_3 (u1_14 hc_X4_lay_0 rfl) rfl
theorem dX4_lay_15 : decode cX4_lay 15 = .ok (.istore 4, 2) := o_54 (u1_15 hc_X4_lay_0 rfl) (u1_16 hc_X4_lay_0 rfl) rfl
theorem hc_X4_lay_16 : ((bL cX4_lay).drop 16).take 18 = [4, 21, 4, 16, 12, 162, 0, 22, 42, 180, 0, 18, 27, 16, 12, 104, 21, 4] := by decide +kernel
theorem dX4_lay_17 : decode cX4_lay 17 = .ok (.iload 4, 2) := o_21 (u1_1 hc_X4_lay_16 rfl) (u1_2 hc_X4_lay_16 rfl) rfl
theorem dX4_lay_19 : decode cX4_lay 19 = .ok (.bipush 12, 2) := o_16 (u1_3 hc_X4_lay_16 rfl) (s1_d (u1_4 hc_X4_lay_16 rfl) rfl) rfl
theorem dX4_lay_21 : decode cX4_lay 21 = .ok (.if_icmp .ge 22, 3) := o_162 (u1_5 hc_X4_lay_16 rfl) (s2_d (u2_d (u1_6 hc_X4_lay_16 rfl) (u1_7 hc_X4_lay_16 rfl) rfl) rfl) rfl
theorem dX4_lay_24 : decode cX4_lay 24 = .ok (.aload_n 0, 1) := o_42 (u1_8 hc_X4_lay_16 rfl) rfl
theorem dX4_lay_25 : decode cX4_lay 25 = .ok (.getfield 18, 3) := o_180 (u1_9 hc_X4_lay_16 rfl) (u2_d (u1_10 hc_X4_lay_16 rfl) (u1_11 hc_X4_lay_16 rfl) rfl) rfl
theorem dX4_lay_28 : decode cX4_lay 28 = .ok (.iload_n 1, 1) := o_27 (u1_12 hc_X4_lay_16 rfl) rfl
theorem dX4_lay_29 : decode cX4_lay 29 = .ok (.bipush 12, 2) := o_16 (u1_13 hc_X4_lay_16 rfl) (s1_d (u1_14 hc_X4_lay_16 rfl) rfl) rfl
theorem dX4_lay_31 : decode cX4_lay 31 = .ok (.imul, 1) := o_104 (u1_15 hc_X4_lay_16 rfl) rfl
theorem hc_X4_lay_32 : ((bL cX4_lay).drop 32).take 18 = [21, 4, 96, 9, 80, 132, 4, 1, 167, 255, 233, 177] := by decide +kernel
theorem dX4_lay_32 : decode cX4_lay 32 = .ok (.iload 4, 2) := o_21 (u1_0 hc_X4_lay_32 rfl) (u1_1 hc_X4_lay_32 rfl) rfl
theorem dX4_lay_34 : decode cX4_lay 34 = .ok (.iadd, 1) := o_96 (u1_2 hc_X4_lay_32 rfl) rfl
theorem dX4_lay_35 : decode cX4_lay 35 = .ok (.lconst 0, 1) := o_9 (u1_3 hc_X4_lay_32 rfl) rfl
theorem dX4_lay_36 : decode cX4_lay 36 = .ok (.lastore, 1) := o_80 (u1_4 hc_X4_lay_32 rfl) rfl
theorem dX4_lay_37 : decode cX4_lay 37 = .ok (.iinc 4 1, 3) := o_132 (u1_5 hc_X4_lay_32 rfl) (u1_6 hc_X4_lay_32 rfl) (s1_d (u1_7 hc_X4_lay_32 rfl) rfl) rfl
theorem dX4_lay_40 : decode cX4_lay 40 = .ok (.goto (-23), 3) := o_167 (u1_8 hc_X4_lay_32 rfl) (s2_d (u2_d (u1_9 hc_X4_lay_32 rfl) (u1_10 hc_X4_lay_32 rfl) rfl) rfl) rfl
theorem dX4_lay_43 : decode cX4_lay 43 = .ok (.return_, 1) := o_177 (u1_11 hc_X4_lay_32 rfl) rfl
theorem hc_X4_isOther_0 : ((bL cX4_isOther).drop 0).take 18 = [42, 180, 0, 9, 27, 46, 16, 247, 159, 0, 17, 42, 180, 0, 9, 27, 46, 28] := by decide +kernel
theorem dX4_isOther_0 : decode cX4_isOther 0 = .ok (.aload_n 0, 1) := o_42 (u1_0 hc_X4_isOther_0 rfl) rfl
theorem dX4_isOther_1 : decode cX4_isOther 1 = .ok (.getfield 9, 3) := o_180 (u1_1 hc_X4_isOther_0 rfl) (u2_d (u1_2 hc_X4_isOther_0 rfl) (u1_3 hc_X4_isOther_0 rfl) rfl) rfl
theorem dX4_isOther_4 : decode cX4_isOther 4 = .ok (.iload_n 1, 1) := o_27 (u1_4 hc_X4_isOther_0 rfl) rfl
theorem dX4_isOther_5 : decode cX4_isOther 5 = .ok (.iaload, 1) := o_46 (u1_5 hc_X4_isOther_0 rfl) rfl
theorem dX4_isOther_6 : decode cX4_isOther 6 = .ok (.bipush (-9), 2) := o_16 (u1_6 hc_X4_isOther_0 rfl) (s1_d (u1_7 hc_X4_isOther_0 rfl) rfl) rfl
theorem dX4_isOther_8 : decode cX4_isOther 8 = .ok (.if_icmp .eq 17, 3) := o_159 (u1_8 hc_X4_isOther_0 rfl) (s2_d (u2_d (u1_9 hc_X4_isOther_0 rfl) (u1_10 hc_X4_isOther_0 rfl) rfl) rfl) rfl
theorem dX4_isOther_11 : decode cX4_isOther 11 = .ok (.aload_n 0, 1) := o_42 (u1_11 hc_X4_isOther_0 rfl) rfl
theorem dX4_isOther_12 : decode cX4_isOther 12 = .ok (.getfield 9, 3) := o_180 (u1_12 hc_X4_isOther_0 rfl) (u2_d (u1_13 hc_X4_isOther_0 rfl) (u1_14 hc_X4_isOther_0 rfl) rfl) rfl
theorem dX4_isOther_15 : decode cX4_isOther 15 = .ok (.iload_n 1, 1) := o_27 (u1_15 hc_X4_isOther_0 rfl) rfl
theorem hc_X4_isOther_16 : ((bL cX4_isOther).drop 16).take 18 = [46, 28, 159, 0, 7, 4, 167, 0, 4, 3, 172] := by decide +kernel
theorem dX4_isOther_16 : decode cX4_isOther 16 = .ok (.iaload, 1) := o_46 (u1_0 hc_X4_isOther_16 rfl) rfl
theorem dX4_isOther_17 : decode cX4_isOther 17 = .ok (.iload_n 2, 1) := o_28 (u1_1 hc_X4_isOther_16 rfl) rfl
theorem dX4_isOther_18 : decode cX4_isOther 18 = .ok (.if_icmp .eq 7, 3) := o_159 (u1_2 hc_X4_isOther_16 rfl) (s2_d (u2_d (u1_3 hc_X4_isOther_16 rfl) (u1_4 hc_X4_isOther_16 rfl) rfl) rfl) rfl
theorem dX4_isOther_21 : decode cX4_isOther 21 = .ok (.iconst 1, 1) := o_4 (u1_5 hc_X4_isOther_16 rfl) rfl
theorem dX4_isOther_22 : decode cX4_isOther 22 = .ok (.goto 4, 3) := o_167 (u1_6 hc_X4_isOther_16 rfl) (s2_d (u2_d (u1_7 hc_X4_isOther_16 rfl) (u1_8 hc_X4_isOther_16 rfl) rfl) rfl) rfl
theorem dX4_isOther_25 : decode cX4_isOther 25 = .ok (.iconst 0, 1) := o_3 (u1_9 hc_X4_isOther_16 rfl) rfl
theorem dX4_isOther_26 : decode cX4_isOther 26 = .ok (.ireturn, 1) := o_172 (u1_10 hc_X4_isOther_16 rfl) rfl
theorem hc_X4_hasRun_0 : ((bL cX4_hasRun).drop 0).take 18 = [28, 155, 0, 33, 29, 155, 0, 29, 28, 42, 180, 0, 15, 27, 46, 163, 0, 19] := by decide +kernel
theorem dX4_hasRun_0 : decode cX4_hasRun 0 = .ok (.iload_n 2, 1) := o_28 (u1_0 hc_X4_hasRun_0 rfl) rfl
theorem dX4_hasRun_1 : decode cX4_hasRun 1 = .ok (.ifCond .lt 33, 3) := o_155 (u1_1 hc_X4_hasRun_0 rfl) (s2_d (u2_d (u1_2 hc_X4_hasRun_0 rfl) (u1_3 hc_X4_hasRun_0 rfl) rfl) rfl) rfl
theorem dX4_hasRun_4 : decode cX4_hasRun 4 = .ok (.iload_n 3, 1) := o_29 (u1_4 hc_X4_hasRun_0 rfl) rfl
theorem dX4_hasRun_5 : decode cX4_hasRun 5 = .ok (.ifCond .lt 29, 3) := o_155 (u1_5 hc_X4_hasRun_0 rfl) (s2_d (u2_d (u1_6 hc_X4_hasRun_0 rfl) (u1_7 hc_X4_hasRun_0 rfl) rfl) rfl) rfl
theorem dX4_hasRun_8 : decode cX4_hasRun 8 = .ok (.iload_n 2, 1) := o_28 (u1_8 hc_X4_hasRun_0 rfl) rfl
theorem dX4_hasRun_9 : decode cX4_hasRun 9 = .ok (.aload_n 0, 1) := o_42 (u1_9 hc_X4_hasRun_0 rfl) rfl
theorem dX4_hasRun_10 : decode cX4_hasRun 10 = .ok (.getfield 15, 3) := o_180 (u1_10 hc_X4_hasRun_0 rfl) (u2_d (u1_11 hc_X4_hasRun_0 rfl) (u1_12 hc_X4_hasRun_0 rfl) rfl) rfl
theorem dX4_hasRun_13 : decode cX4_hasRun 13 = .ok (.iload_n 1, 1) := o_27 (u1_13 hc_X4_hasRun_0 rfl) rfl
theorem dX4_hasRun_14 : decode cX4_hasRun 14 = .ok (.iaload, 1) := o_46 (u1_14 hc_X4_hasRun_0 rfl) rfl
theorem dX4_hasRun_15 : decode cX4_hasRun 15 = .ok (.if_icmp .gt 19, 3) := o_163 (u1_15 hc_X4_hasRun_0 rfl) (s2_d (u2_d (u1_16 hc_X4_hasRun_0 rfl) (u1_17 hc_X4_hasRun_0 rfl) rfl) rfl) rfl
theorem hc_X4_hasRun_16 : ((bL cX4_hasRun).drop 16).take 18 = [0, 19, 29, 42, 180, 0, 15, 27, 46, 28, 100, 163, 0, 7, 4, 167, 0, 4] := by decide +kernel
theorem dX4_hasRun_18 : decode cX4_hasRun 18 = .ok (.iload_n 3, 1) := o_29 (u1_2 hc_X4_hasRun_16 rfl) rfl
theorem dX4_hasRun_19 : decode cX4_hasRun 19 = .ok (.aload_n 0, 1) := o_42 (u1_3 hc_X4_hasRun_16 rfl) rfl
theorem dX4_hasRun_20 : decode cX4_hasRun 20 = .ok (.getfield 15, 3) := o_180 (u1_4 hc_X4_hasRun_16 rfl) (u2_d (u1_5 hc_X4_hasRun_16 rfl) (u1_6 hc_X4_hasRun_16 rfl) rfl) rfl
theorem dX4_hasRun_23 : decode cX4_hasRun 23 = .ok (.iload_n 1, 1) := o_27 (u1_7 hc_X4_hasRun_16 rfl) rfl
theorem dX4_hasRun_24 : decode cX4_hasRun 24 = .ok (.iaload, 1) := o_46 (u1_8 hc_X4_hasRun_16 rfl) rfl
theorem dX4_hasRun_25 : decode cX4_hasRun 25 = .ok (.iload_n 2, 1) := o_28 (u1_9 hc_X4_hasRun_16 rfl) rfl
theorem dX4_hasRun_26 : decode cX4_hasRun 26 = .ok (.isub, 1) := o_100 (u1_10 hc_X4_hasRun_16 rfl) rfl
theorem dX4_hasRun_27 : decode cX4_hasRun 27 = .ok (.if_icmp .gt 7, 3) := o_163 (u1_11 hc_X4_hasRun_16 rfl) (s2_d (u2_d (u1_12 hc_X4_hasRun_16 rfl) (u1_13 hc_X4_hasRun_16 rfl) rfl) rfl) rfl
theorem dX4_hasRun_30 : decode cX4_hasRun 30 = .ok (.iconst 1, 1) := o_4 (u1_14 hc_X4_hasRun_16 rfl) rfl
theorem dX4_hasRun_31 : decode cX4_hasRun 31 = .ok (.goto 4, 3) := o_167 (u1_15 hc_X4_hasRun_16 rfl) (s2_d (u2_d (u1_16 hc_X4_hasRun_16 rfl) (u1_17 hc_X4_hasRun_16 rfl) rfl) rfl) rfl
theorem hc_X4_hasRun_32 : ((bL cX4_hasRun).drop 32).take 18 = [0, 4, 3, 172] := by decide +kernel
theorem dX4_hasRun_34 : decode cX4_hasRun 34 = .ok (.iconst 0, 1) := o_3 (u1_2 hc_X4_hasRun_32 rfl) rfl
theorem dX4_hasRun_35 : decode cX4_hasRun 35 = .ok (.ireturn, 1) := o_172 (u1_3 hc_X4_hasRun_32 rfl) rfl
theorem hc_X4_cutTo_0 : ((bL cX4_cutTo).drop 0).take 18 = [27, 170, 0, 0, 0, 0, 0, 49, 0, 0, 0, 0, 0, 0, 0, 2, 0, 0] := by decide +kernel
theorem dX4_cutTo_0 : decode cX4_cutTo 0 = .ok (.iload_n 1, 1) := o_27 (u1_0 hc_X4_cutTo_0 rfl) rfl
theorem dX4_cutTo_1 : decode cX4_cutTo 1 = .ok (.tableswitch 49 0 2 #[27, 34, 40], 27) := by decide +kernel
theorem hc_X4_cutTo_16 : ((bL cX4_cutTo).drop 16).take 18 = [0, 0, 0, 27, 0, 0, 0, 34, 0, 0, 0, 40, 32, 136, 145, 133, 167, 0] := by decide +kernel
theorem dX4_cutTo_28 : decode cX4_cutTo 28 = .ok (.lload_n 2, 1) := o_32 (u1_12 hc_X4_cutTo_16 rfl) rfl
theorem dX4_cutTo_29 : decode cX4_cutTo 29 = .ok (.l2i, 1) := o_136 (u1_13 hc_X4_cutTo_16 rfl) rfl
theorem dX4_cutTo_30 : decode cX4_cutTo 30 = .ok (.i2b, 1) := o_145 (u1_14 hc_X4_cutTo_16 rfl) rfl
theorem dX4_cutTo_31 : decode cX4_cutTo 31 = .ok (.i2l, 1) := o_133 (u1_15 hc_X4_cutTo_16 rfl) rfl
theorem hc_X4_cutTo_32 : ((bL cX4_cutTo).drop 32).take 18 = [167, 0, 19, 32, 136, 133, 167, 0, 13, 32, 136, 184, 0, 28, 133, 167, 0, 4] := by decide +kernel
theorem dX4_cutTo_32 : decode cX4_cutTo 32 = .ok (.goto 19, 3) := o_167 (u1_0 hc_X4_cutTo_32 rfl) (s2_d (u2_d (u1_1 hc_X4_cutTo_32 rfl) (u1_2 hc_X4_cutTo_32 rfl) rfl) rfl) rfl
theorem dX4_cutTo_35 : decode cX4_cutTo 35 = .ok (.lload_n 2, 1) := o_32 (u1_3 hc_X4_cutTo_32 rfl) rfl
theorem dX4_cutTo_36 : decode cX4_cutTo 36 = .ok (.l2i, 1) := o_136 (u1_4 hc_X4_cutTo_32 rfl) rfl
theorem dX4_cutTo_37 : decode cX4_cutTo 37 = .ok (.i2l, 1) := o_133 (u1_5 hc_X4_cutTo_32 rfl) rfl
theorem dX4_cutTo_38 : decode cX4_cutTo 38 = .ok (.goto 13, 3) := o_167 (u1_6 hc_X4_cutTo_32 rfl) (s2_d (u2_d (u1_7 hc_X4_cutTo_32 rfl) (u1_8 hc_X4_cutTo_32 rfl) rfl) rfl) rfl
theorem dX4_cutTo_41 : decode cX4_cutTo 41 = .ok (.lload_n 2, 1) := o_32 (u1_9 hc_X4_cutTo_32 rfl) rfl
theorem dX4_cutTo_42 : decode cX4_cutTo 42 = .ok (.l2i, 1) := o_136 (u1_10 hc_X4_cutTo_32 rfl) rfl
theorem dX4_cutTo_43 : decode cX4_cutTo 43 = .ok (.invokestatic 28, 3) := o_184 (u1_11 hc_X4_cutTo_32 rfl) (u2_d (u1_12 hc_X4_cutTo_32 rfl) (u1_13 hc_X4_cutTo_32 rfl) rfl) rfl
theorem dX4_cutTo_46 : decode cX4_cutTo 46 = .ok (.i2l, 1) := o_133 (u1_14 hc_X4_cutTo_32 rfl) rfl
theorem dX4_cutTo_47 : decode cX4_cutTo 47 = .ok (.goto 4, 3) := o_167 (u1_15 hc_X4_cutTo_32 rfl) (s2_d (u2_d (u1_16 hc_X4_cutTo_32 rfl) (u1_17 hc_X4_cutTo_32 rfl) rfl) rfl) rfl
theorem hc_X4_cutTo_48 : ((bL cX4_cutTo).drop 48).take 18 = [0, 4, 32, 173] := by decide +kernel
theorem dX4_cutTo_50 : decode cX4_cutTo 50 = .ok (.lload_n 2, 1) := o_32 (u1_2 hc_X4_cutTo_48 rfl) rfl
theorem dX4_cutTo_51 : decode cX4_cutTo 51 = .ok (.lreturn, 1) := o_173 (u1_3 hc_X4_cutTo_48 rfl) rfl
theorem hc_X4_floatBits_0 : ((bL cX4_floatBits).drop 0).take 18 = [26, 18, 32, 126, 18, 33, 164, 0, 8, 18, 34, 167, 0, 4, 26, 172] := by decide +kernel
theorem dX4_floatBits_0 : decode cX4_floatBits 0 = .ok (.iload_n 0, 1) := o_26 (u1_0 hc_X4_floatBits_0 rfl) rfl
theorem dX4_floatBits_1 : decode cX4_floatBits 1 = .ok (.ldc 32, 2) := o_18 (u1_1 hc_X4_floatBits_0 rfl) (u1_2 hc_X4_floatBits_0 rfl) rfl
theorem dX4_floatBits_3 : decode cX4_floatBits 3 = .ok (.iand, 1) := o_126 (u1_3 hc_X4_floatBits_0 rfl) rfl
theorem dX4_floatBits_4 : decode cX4_floatBits 4 = .ok (.ldc 33, 2) := o_18 (u1_4 hc_X4_floatBits_0 rfl) (u1_5 hc_X4_floatBits_0 rfl) rfl
theorem dX4_floatBits_6 : decode cX4_floatBits 6 = .ok (.if_icmp .le 8, 3) := o_164 (u1_6 hc_X4_floatBits_0 rfl) (s2_d (u2_d (u1_7 hc_X4_floatBits_0 rfl) (u1_8 hc_X4_floatBits_0 rfl) rfl) rfl) rfl
theorem dX4_floatBits_9 : decode cX4_floatBits 9 = .ok (.ldc 34, 2) := o_18 (u1_9 hc_X4_floatBits_0 rfl) (u1_10 hc_X4_floatBits_0 rfl) rfl
theorem dX4_floatBits_11 : decode cX4_floatBits 11 = .ok (.goto 4, 3) := o_167 (u1_11 hc_X4_floatBits_0 rfl) (s2_d (u2_d (u1_12 hc_X4_floatBits_0 rfl) (u1_13 hc_X4_floatBits_0 rfl) rfl) rfl) rfl
theorem dX4_floatBits_14 : decode cX4_floatBits 14 = .ok (.iload_n 0, 1) := o_26 (u1_14 hc_X4_floatBits_0 rfl) rfl
theorem dX4_floatBits_15 : decode cX4_floatBits 15 = .ok (.ireturn, 1) := o_172 (u1_15 hc_X4_floatBits_0 rfl) rfl
theorem hc_X5_init_0 : ((bL cX5_init).drop 0).take 18 = [42, 183, 0, 3, 42, 17, 1, 44, 188, 10, 181, 0, 9, 42, 17, 1, 44, 188] := by decide +kernel
theorem dX5_init_0 : decode cX5_init 0 = .ok (.aload_n 0, 1) := o_42 (u1_0 hc_X5_init_0 rfl) rfl
theorem dX5_init_1 : decode cX5_init 1 = .ok (.invokespecial 3, 3) := o_183 (u1_1 hc_X5_init_0 rfl) (u2_d (u1_2 hc_X5_init_0 rfl) (u1_3 hc_X5_init_0 rfl) rfl) rfl
theorem dX5_init_4 : decode cX5_init 4 = .ok (.aload_n 0, 1) := o_42 (u1_4 hc_X5_init_0 rfl) rfl
theorem dX5_init_5 : decode cX5_init 5 = .ok (.sipush 300, 3) := o_17 (u1_5 hc_X5_init_0 rfl) (s2_d (u2_d (u1_6 hc_X5_init_0 rfl) (u1_7 hc_X5_init_0 rfl) rfl) rfl) rfl
theorem dX5_init_8 : decode cX5_init 8 = .ok (.newarray .int, 2) := o_188_10 (u1_8 hc_X5_init_0 rfl) (u1_9 hc_X5_init_0 rfl) rfl
theorem dX5_init_10 : decode cX5_init 10 = .ok (.putfield 9, 3) := o_181 (u1_10 hc_X5_init_0 rfl) (u2_d (u1_11 hc_X5_init_0 rfl) (u1_12 hc_X5_init_0 rfl) rfl) rfl
theorem dX5_init_13 : decode cX5_init 13 = .ok (.aload_n 0, 1) := o_42 (u1_13 hc_X5_init_0 rfl) rfl
theorem dX5_init_14 : decode cX5_init 14 = .ok (.sipush 300, 3) := o_17 (u1_14 hc_X5_init_0 rfl) (s2_d (u2_d (u1_15 hc_X5_init_0 rfl) (u1_16 hc_X5_init_0 rfl) rfl) rfl) rfl
theorem hc_X5_init_16 : ((bL cX5_init).drop 16).take 18 = [44, 188, 10, 181, 0, 15, 42, 17, 1, 44, 188, 10, 181, 0, 18, 42, 17, 1] := by decide +kernel
theorem dX5_init_17 : decode cX5_init 17 = .ok (.newarray .int, 2) := o_188_10 (u1_1 hc_X5_init_16 rfl) (u1_2 hc_X5_init_16 rfl) rfl
theorem dX5_init_19 : decode cX5_init 19 = .ok (.putfield 15, 3) := o_181 (u1_3 hc_X5_init_16 rfl) (u2_d (u1_4 hc_X5_init_16 rfl) (u1_5 hc_X5_init_16 rfl) rfl) rfl
theorem dX5_init_22 : decode cX5_init 22 = .ok (.aload_n 0, 1) := o_42 (u1_6 hc_X5_init_16 rfl) rfl
theorem dX5_init_23 : decode cX5_init 23 = .ok (.sipush 300, 3) := o_17 (u1_7 hc_X5_init_16 rfl) (s2_d (u2_d (u1_8 hc_X5_init_16 rfl) (u1_9 hc_X5_init_16 rfl) rfl) rfl) rfl
theorem dX5_init_26 : decode cX5_init 26 = .ok (.newarray .int, 2) := o_188_10 (u1_10 hc_X5_init_16 rfl) (u1_11 hc_X5_init_16 rfl) rfl
theorem dX5_init_28 : decode cX5_init 28 = .ok (.putfield 18, 3) := o_181 (u1_12 hc_X5_init_16 rfl) (u2_d (u1_13 hc_X5_init_16 rfl) (u1_14 hc_X5_init_16 rfl) rfl) rfl
theorem dX5_init_31 : decode cX5_init 31 = .ok (.aload_n 0, 1) := o_42 (u1_15 hc_X5_init_16 rfl) rfl
theorem hc_X5_init_32 : ((bL cX5_init).drop 32).take 18 = [17, 1, 44, 188, 10, 181, 0, 21, 42, 16, 30, 188, 10, 181, 0, 24, 42, 16] := by decide +kernel
theorem dX5_init_32 : decode cX5_init 32 = .ok (.sipush 300, 3) := o_17 (u1_0 hc_X5_init_32 rfl) (s2_d (u2_d (u1_1 hc_X5_init_32 rfl) (u1_2 hc_X5_init_32 rfl) rfl) rfl) rfl
theorem dX5_init_35 : decode cX5_init 35 = .ok (.newarray .int, 2) := o_188_10 (u1_3 hc_X5_init_32 rfl) (u1_4 hc_X5_init_32 rfl) rfl
theorem dX5_init_37 : decode cX5_init 37 = .ok (.putfield 21, 3) := o_181 (u1_5 hc_X5_init_32 rfl) (u2_d (u1_6 hc_X5_init_32 rfl) (u1_7 hc_X5_init_32 rfl) rfl) rfl
theorem dX5_init_40 : decode cX5_init 40 = .ok (.aload_n 0, 1) := o_42 (u1_8 hc_X5_init_32 rfl) rfl
theorem dX5_init_41 : decode cX5_init 41 = .ok (.bipush 30, 2) := o_16 (u1_9 hc_X5_init_32 rfl) (s1_d (u1_10 hc_X5_init_32 rfl) rfl) rfl
theorem dX5_init_43 : decode cX5_init 43 = .ok (.newarray .int, 2) := o_188_10 (u1_11 hc_X5_init_32 rfl) (u1_12 hc_X5_init_32 rfl) rfl
theorem dX5_init_45 : decode cX5_init 45 = .ok (.putfield 24, 3) := o_181 (u1_13 hc_X5_init_32 rfl) (u2_d (u1_14 hc_X5_init_32 rfl) (u1_15 hc_X5_init_32 rfl) rfl) rfl
theorem hc_X5_init_48 : ((bL cX5_init).drop 48).take 18 = [42, 16, 30, 188, 10, 181, 0, 27, 42, 16, 30, 188, 10, 181, 0, 30, 42, 16] := by decide +kernel
theorem dX5_init_48 : decode cX5_init 48 = .ok (.aload_n 0, 1) := o_42 (u1_0 hc_X5_init_48 rfl) rfl
theorem dX5_init_49 : decode cX5_init 49 = .ok (.bipush 30, 2) := o_16 (u1_1 hc_X5_init_48 rfl) (s1_d (u1_2 hc_X5_init_48 rfl) rfl) rfl
theorem dX5_init_51 : decode cX5_init 51 = .ok (.newarray .int, 2) := o_188_10 (u1_3 hc_X5_init_48 rfl) (u1_4 hc_X5_init_48 rfl) rfl
theorem dX5_init_53 : decode cX5_init 53 = .ok (.putfield 27, 3) := o_181 (u1_5 hc_X5_init_48 rfl) (u2_d (u1_6 hc_X5_init_48 rfl) (u1_7 hc_X5_init_48 rfl) rfl) rfl
theorem dX5_init_56 : decode cX5_init 56 = .ok (.aload_n 0, 1) := o_42 (u1_8 hc_X5_init_48 rfl) rfl
theorem dX5_init_57 : decode cX5_init 57 = .ok (.bipush 30, 2) := o_16 (u1_9 hc_X5_init_48 rfl) (s1_d (u1_10 hc_X5_init_48 rfl) rfl) rfl
theorem dX5_init_59 : decode cX5_init 59 = .ok (.newarray .int, 2) := o_188_10 (u1_11 hc_X5_init_48 rfl) (u1_12 hc_X5_init_48 rfl) rfl
theorem dX5_init_61 : decode cX5_init 61 = .ok (.putfield 30, 3) := o_181 (u1_13 hc_X5_init_48 rfl) (u2_d (u1_14 hc_X5_init_48 rfl) (u1_15 hc_X5_init_48 rfl) rfl) rfl
theorem hc_X5_init_64 : ((bL cX5_init).drop 64).take 18 = [42, 16, 30, 188, 10, 181, 0, 33, 42, 16, 30, 188, 10, 181, 0, 36, 42, 43] := by decide +kernel
theorem dX5_init_64 : decode cX5_init 64 = .ok (.aload_n 0, 1) := o_42 (u1_0 hc_X5_init_64 rfl) rfl
theorem dX5_init_65 : decode cX5_init 65 = .ok (.bipush 30, 2) := o_16 (u1_1 hc_X5_init_64 rfl) (s1_d (u1_2 hc_X5_init_64 rfl) rfl) rfl
theorem dX5_init_67 : decode cX5_init 67 = .ok (.newarray .int, 2) := o_188_10 (u1_3 hc_X5_init_64 rfl) (u1_4 hc_X5_init_64 rfl) rfl
theorem dX5_init_69 : decode cX5_init 69 = .ok (.putfield 33, 3) := o_181 (u1_5 hc_X5_init_64 rfl) (u2_d (u1_6 hc_X5_init_64 rfl) (u1_7 hc_X5_init_64 rfl) rfl) rfl
theorem dX5_init_72 : decode cX5_init 72 = .ok (.aload_n 0, 1) := o_42 (u1_8 hc_X5_init_64 rfl) rfl
theorem dX5_init_73 : decode cX5_init 73 = .ok (.bipush 30, 2) := o_16 (u1_9 hc_X5_init_64 rfl) (s1_d (u1_10 hc_X5_init_64 rfl) rfl) rfl
theorem dX5_init_75 : decode cX5_init 75 = .ok (.newarray .int, 2) := o_188_10 (u1_11 hc_X5_init_64 rfl) (u1_12 hc_X5_init_64 rfl) rfl
theorem dX5_init_77 : decode cX5_init 77 = .ok (.putfield 36, 3) := o_181 (u1_13 hc_X5_init_64 rfl) (u2_d (u1_14 hc_X5_init_64 rfl) (u1_15 hc_X5_init_64 rfl) rfl) rfl
theorem hc_X5_init_80 : ((bL cX5_init).drop 80).take 18 = [42, 43, 181, 0, 39, 42, 44, 181, 0, 43, 42, 182, 0, 47, 177] := by decide +kernel
theorem dX5_init_80 : decode cX5_init 80 = .ok (.aload_n 0, 1) := o_42 (u1_0 hc_X5_init_80 rfl) rfl
theorem dX5_init_81 : decode cX5_init 81 = .ok (.aload_n 1, 1) := o_43 (u1_1 hc_X5_init_80 rfl) rfl
theorem dX5_init_82 : decode cX5_init 82 = .ok (.putfield 39, 3) := o_181 (u1_2 hc_X5_init_80 rfl) (u2_d (u1_3 hc_X5_init_80 rfl) (u1_4 hc_X5_init_80 rfl) rfl) rfl
theorem dX5_init_85 : decode cX5_init 85 = .ok (.aload_n 0, 1) := o_42 (u1_5 hc_X5_init_80 rfl) rfl
theorem dX5_init_86 : decode cX5_init 86 = .ok (.aload_n 2, 1) := o_44 (u1_6 hc_X5_init_80 rfl) rfl
theorem dX5_init_87 : decode cX5_init 87 = .ok (.putfield 43, 3) := o_181 (u1_7 hc_X5_init_80 rfl) (u2_d (u1_8 hc_X5_init_80 rfl) (u1_9 hc_X5_init_80 rfl) rfl) rfl
theorem dX5_init_90 : decode cX5_init 90 = .ok (.aload_n 0, 1) := o_42 (u1_10 hc_X5_init_80 rfl) rfl
theorem dX5_init_91 : decode cX5_init 91 = .ok (.invokevirtual 47, 3) := o_182 (u1_11 hc_X5_init_80 rfl) (u2_d (u1_12 hc_X5_init_80 rfl) (u1_13 hc_X5_init_80 rfl) rfl) rfl
theorem dX5_init_94 : decode cX5_init 94 = .ok (.return_, 1) := o_177 (u1_14 hc_X5_init_80 rfl) rfl
theorem hc_X5_wipe_0 : ((bL cX5_wipe).drop 0).take 18 = [42, 180, 0, 9, 16, 247, 184, 0, 50, 42, 180, 0, 15, 16, 247, 184, 0, 50] := by decide +kernel
theorem dX5_wipe_0 : decode cX5_wipe 0 = .ok (.aload_n 0, 1) := o_42 (u1_0 hc_X5_wipe_0 rfl) rfl
theorem dX5_wipe_1 : decode cX5_wipe 1 = .ok (.getfield 9, 3) := o_180 (u1_1 hc_X5_wipe_0 rfl) (u2_d (u1_2 hc_X5_wipe_0 rfl) (u1_3 hc_X5_wipe_0 rfl) rfl) rfl
theorem dX5_wipe_4 : decode cX5_wipe 4 = .ok (.bipush (-9), 2) := o_16 (u1_4 hc_X5_wipe_0 rfl) (s1_d (u1_5 hc_X5_wipe_0 rfl) rfl) rfl
theorem dX5_wipe_6 : decode cX5_wipe 6 = .ok (.invokestatic 50, 3) := o_184 (u1_6 hc_X5_wipe_0 rfl) (u2_d (u1_7 hc_X5_wipe_0 rfl) (u1_8 hc_X5_wipe_0 rfl) rfl) rfl
theorem dX5_wipe_9 : decode cX5_wipe 9 = .ok (.aload_n 0, 1) := o_42 (u1_9 hc_X5_wipe_0 rfl) rfl
theorem dX5_wipe_10 : decode cX5_wipe 10 = .ok (.getfield 15, 3) := o_180 (u1_10 hc_X5_wipe_0 rfl) (u2_d (u1_11 hc_X5_wipe_0 rfl) (u1_12 hc_X5_wipe_0 rfl) rfl) rfl
theorem dX5_wipe_13 : decode cX5_wipe 13 = .ok (.bipush (-9), 2) := o_16 (u1_13 hc_X5_wipe_0 rfl) (s1_d (u1_14 hc_X5_wipe_0 rfl) rfl) rfl
theorem dX5_wipe_15 : decode cX5_wipe 15 = .ok (.invokestatic 50, 3) := o_184 (u1_15 hc_X5_wipe_0 rfl) (u2_d (u1_16 hc_X5_wipe_0 rfl) (u1_17 hc_X5_wipe_0 rfl) rfl) rfl
theorem hc_X5_wipe_16 : ((bL cX5_wipe).drop 16).take 18 = [0, 50, 42, 180, 0, 18, 16, 247, 184, 0, 50, 42, 180, 0, 21, 3, 184, 0] := by decide +kernel
theorem dX5_wipe_18 : decode cX5_wipe 18 = .ok (.aload_n 0, 1) := o_42 (u1_2 hc_X5_wipe_16 rfl) rfl
theorem dX5_wipe_19 : decode cX5_wipe 19 = .ok (.getfield 18, 3) := o_180 (u1_3 hc_X5_wipe_16 rfl) (u2_d (u1_4 hc_X5_wipe_16 rfl) (u1_5 hc_X5_wipe_16 rfl) rfl) rfl
theorem dX5_wipe_22 : decode cX5_wipe 22 = .ok (.bipush (-9), 2) := o_16 (u1_6 hc_X5_wipe_16 rfl) (s1_d (u1_7 hc_X5_wipe_16 rfl) rfl) rfl
theorem dX5_wipe_24 : decode cX5_wipe 24 = .ok (.invokestatic 50, 3) := o_184 (u1_8 hc_X5_wipe_16 rfl) (u2_d (u1_9 hc_X5_wipe_16 rfl) (u1_10 hc_X5_wipe_16 rfl) rfl) rfl
theorem dX5_wipe_27 : decode cX5_wipe 27 = .ok (.aload_n 0, 1) := o_42 (u1_11 hc_X5_wipe_16 rfl) rfl
theorem dX5_wipe_28 : decode cX5_wipe 28 = .ok (.getfield 21, 3) := o_180 (u1_12 hc_X5_wipe_16 rfl) (u2_d (u1_13 hc_X5_wipe_16 rfl) (u1_14 hc_X5_wipe_16 rfl) rfl) rfl
theorem dX5_wipe_31 : decode cX5_wipe 31 = .ok (.iconst 0, 1) := o_3 (u1_15 hc_X5_wipe_16 rfl) rfl
theorem hc_X5_wipe_32 : ((bL cX5_wipe).drop 32).take 18 = [184, 0, 50, 42, 180, 0, 24, 16, 247, 184, 0, 50, 42, 180, 0, 27, 16, 247] := by decide +kernel
theorem dX5_wipe_32 : decode cX5_wipe 32 = .ok (.invokestatic 50, 3) := o_184 (u1_0 hc_X5_wipe_32 rfl) (u2_d (u1_1 hc_X5_wipe_32 rfl) (u1_2 hc_X5_wipe_32 rfl) rfl) rfl
theorem dX5_wipe_35 : decode cX5_wipe 35 = .ok (.aload_n 0, 1) := o_42 (u1_3 hc_X5_wipe_32 rfl) rfl
theorem dX5_wipe_36 : decode cX5_wipe 36 = .ok (.getfield 24, 3) := o_180 (u1_4 hc_X5_wipe_32 rfl) (u2_d (u1_5 hc_X5_wipe_32 rfl) (u1_6 hc_X5_wipe_32 rfl) rfl) rfl
theorem dX5_wipe_39 : decode cX5_wipe 39 = .ok (.bipush (-9), 2) := o_16 (u1_7 hc_X5_wipe_32 rfl) (s1_d (u1_8 hc_X5_wipe_32 rfl) rfl) rfl
theorem dX5_wipe_41 : decode cX5_wipe 41 = .ok (.invokestatic 50, 3) := o_184 (u1_9 hc_X5_wipe_32 rfl) (u2_d (u1_10 hc_X5_wipe_32 rfl) (u1_11 hc_X5_wipe_32 rfl) rfl) rfl
theorem dX5_wipe_44 : decode cX5_wipe 44 = .ok (.aload_n 0, 1) := o_42 (u1_12 hc_X5_wipe_32 rfl) rfl
theorem dX5_wipe_45 : decode cX5_wipe 45 = .ok (.getfield 27, 3) := o_180 (u1_13 hc_X5_wipe_32 rfl) (u2_d (u1_14 hc_X5_wipe_32 rfl) (u1_15 hc_X5_wipe_32 rfl) rfl) rfl
theorem hc_X5_wipe_48 : ((bL cX5_wipe).drop 48).take 18 = [16, 247, 184, 0, 50, 177] := by decide +kernel
theorem dX5_wipe_48 : decode cX5_wipe 48 = .ok (.bipush (-9), 2) := o_16 (u1_0 hc_X5_wipe_48 rfl) (s1_d (u1_1 hc_X5_wipe_48 rfl) rfl) rfl
theorem dX5_wipe_50 : decode cX5_wipe 50 = .ok (.invokestatic 50, 3) := o_184 (u1_2 hc_X5_wipe_48 rfl) (u2_d (u1_3 hc_X5_wipe_48 rfl) (u1_4 hc_X5_wipe_48 rfl) rfl) rfl
theorem dX5_wipe_53 : decode cX5_wipe 53 = .ok (.return_, 1) := o_177 (u1_5 hc_X5_wipe_48 rfl) rfl
theorem hc_X5_redrawFor_0 : ((bL cX5_redrawFor).drop 0).take 18 = [27, 8, 159, 0, 4, 177, 42, 182, 0, 47, 42, 182, 0, 56, 42, 182, 0, 59] := by decide +kernel
theorem dX5_redrawFor_0 : decode cX5_redrawFor 0 = .ok (.iload_n 1, 1) := o_27 (u1_0 hc_X5_redrawFor_0 rfl) rfl
theorem dX5_redrawFor_1 : decode cX5_redrawFor 1 = .ok (.iconst 5, 1) := o_8 (u1_1 hc_X5_redrawFor_0 rfl) rfl
theorem dX5_redrawFor_2 : decode cX5_redrawFor 2 = .ok (.if_icmp .eq 4, 3) := o_159 (u1_2 hc_X5_redrawFor_0 rfl) (s2_d (u2_d (u1_3 hc_X5_redrawFor_0 rfl) (u1_4 hc_X5_redrawFor_0 rfl) rfl) rfl) rfl
theorem dX5_redrawFor_5 : decode cX5_redrawFor 5 = .ok (.return_, 1) := o_177 (u1_5 hc_X5_redrawFor_0 rfl) rfl
theorem dX5_redrawFor_6 : decode cX5_redrawFor 6 = .ok (.aload_n 0, 1) := o_42 (u1_6 hc_X5_redrawFor_0 rfl) rfl
theorem dX5_redrawFor_7 : decode cX5_redrawFor 7 = .ok (.invokevirtual 47, 3) := o_182 (u1_7 hc_X5_redrawFor_0 rfl) (u2_d (u1_8 hc_X5_redrawFor_0 rfl) (u1_9 hc_X5_redrawFor_0 rfl) rfl) rfl
theorem dX5_redrawFor_10 : decode cX5_redrawFor 10 = .ok (.aload_n 0, 1) := o_42 (u1_10 hc_X5_redrawFor_0 rfl) rfl
theorem dX5_redrawFor_11 : decode cX5_redrawFor 11 = .ok (.invokevirtual 56, 3) := o_182 (u1_11 hc_X5_redrawFor_0 rfl) (u2_d (u1_12 hc_X5_redrawFor_0 rfl) (u1_13 hc_X5_redrawFor_0 rfl) rfl) rfl
theorem dX5_redrawFor_14 : decode cX5_redrawFor 14 = .ok (.aload_n 0, 1) := o_42 (u1_14 hc_X5_redrawFor_0 rfl) rfl
theorem dX5_redrawFor_15 : decode cX5_redrawFor 15 = .ok (.invokevirtual 59, 3) := o_182 (u1_15 hc_X5_redrawFor_0 rfl) (u2_d (u1_16 hc_X5_redrawFor_0 rfl) (u1_17 hc_X5_redrawFor_0 rfl) rfl) rfl
theorem hc_X5_redrawFor_16 : ((bL cX5_redrawFor).drop 16).take 18 = [0, 59, 42, 182, 0, 62, 177] := by decide +kernel
theorem dX5_redrawFor_18 : decode cX5_redrawFor 18 = .ok (.aload_n 0, 1) := o_42 (u1_2 hc_X5_redrawFor_16 rfl) rfl
theorem dX5_redrawFor_19 : decode cX5_redrawFor 19 = .ok (.invokevirtual 62, 3) := o_182 (u1_3 hc_X5_redrawFor_16 rfl) (u2_d (u1_4 hc_X5_redrawFor_16 rfl) (u1_5 hc_X5_redrawFor_16 rfl) rfl) rfl
theorem dX5_redrawFor_22 : decode cX5_redrawFor 22 = .ok (.return_, 1) := o_177 (u1_6 hc_X5_redrawFor_16 rfl) rfl
theorem hc_X5_isDrawn_0 : ((bL cX5_isDrawn).drop 0).take 18 = [42, 180, 0, 43, 180, 0, 65, 27, 51, 153, 0, 20, 42, 180, 0, 43, 180, 0] := by decide +kernel
theorem dX5_isDrawn_0 : decode cX5_isDrawn 0 = .ok (.aload_n 0, 1) := o_42 (u1_0 hc_X5_isDrawn_0 rfl) rfl
theorem dX5_isDrawn_1 : decode cX5_isDrawn 1 = .ok (.getfield 43, 3) := o_180 (u1_1 hc_X5_isDrawn_0 rfl) (u2_d (u1_2 hc_X5_isDrawn_0 rfl) (u1_3 hc_X5_isDrawn_0 rfl) rfl) rfl
theorem dX5_isDrawn_4 : decode cX5_isDrawn 4 = .ok (.getfield 65, 3) := o_180 (u1_4 hc_X5_isDrawn_0 rfl) (u2_d (u1_5 hc_X5_isDrawn_0 rfl) (u1_6 hc_X5_isDrawn_0 rfl) rfl) rfl
theorem dX5_isDrawn_7 : decode cX5_isDrawn 7 = .ok (.iload_n 1, 1) := o_27 (u1_7 hc_X5_isDrawn_0 rfl) rfl
theorem dX5_isDrawn_8 : decode cX5_isDrawn 8 = .ok (.baload, 1) := o_51 (u1_8 hc_X5_isDrawn_0 rfl) rfl
theorem dX5_isDrawn_9 : decode cX5_isDrawn 9 = .ok (.ifCond .eq 20, 3) := o_153 (u1_9 hc_X5_isDrawn_0 rfl) (s2_d (u2_d (u1_10 hc_X5_isDrawn_0 rfl) (u1_11 hc_X5_isDrawn_0 rfl) rfl) rfl) rfl
theorem dX5_isDrawn_12 : decode cX5_isDrawn 12 = .ok (.aload_n 0, 1) := o_42 (u1_12 hc_X5_isDrawn_0 rfl) rfl
theorem dX5_isDrawn_13 : decode cX5_isDrawn 13 = .ok (.getfield 43, 3) := o_180 (u1_13 hc_X5_isDrawn_0 rfl) (u2_d (u1_14 hc_X5_isDrawn_0 rfl) (u1_15 hc_X5_isDrawn_0 rfl) rfl) rfl
theorem hc_X5_isDrawn_16 : ((bL cX5_isDrawn).drop 16).take 18 = [180, 0, 71, 27, 46, 8, 160, 0, 7, 4, 167, 0, 4, 3, 172] := by decide +kernel
theorem dX5_isDrawn_16 : decode cX5_isDrawn 16 = .ok (.getfield 71, 3) := o_180 (u1_0 hc_X5_isDrawn_16 rfl) (u2_d (u1_1 hc_X5_isDrawn_16 rfl) (u1_2 hc_X5_isDrawn_16 rfl) rfl) rfl
theorem dX5_isDrawn_19 : decode cX5_isDrawn 19 = .ok (.iload_n 1, 1) := o_27 (u1_3 hc_X5_isDrawn_16 rfl) rfl
theorem dX5_isDrawn_20 : decode cX5_isDrawn 20 = .ok (.iaload, 1) := o_46 (u1_4 hc_X5_isDrawn_16 rfl) rfl
theorem dX5_isDrawn_21 : decode cX5_isDrawn 21 = .ok (.iconst 5, 1) := o_8 (u1_5 hc_X5_isDrawn_16 rfl) rfl
theorem dX5_isDrawn_22 : decode cX5_isDrawn 22 = .ok (.if_icmp .ne 7, 3) := o_160 (u1_6 hc_X5_isDrawn_16 rfl) (s2_d (u2_d (u1_7 hc_X5_isDrawn_16 rfl) (u1_8 hc_X5_isDrawn_16 rfl) rfl) rfl) rfl
theorem dX5_isDrawn_25 : decode cX5_isDrawn 25 = .ok (.iconst 1, 1) := o_4 (u1_9 hc_X5_isDrawn_16 rfl) rfl
theorem dX5_isDrawn_26 : decode cX5_isDrawn 26 = .ok (.goto 4, 3) := o_167 (u1_10 hc_X5_isDrawn_16 rfl) (s2_d (u2_d (u1_11 hc_X5_isDrawn_16 rfl) (u1_12 hc_X5_isDrawn_16 rfl) rfl) rfl) rfl
theorem dX5_isDrawn_29 : decode cX5_isDrawn 29 = .ok (.iconst 0, 1) := o_3 (u1_13 hc_X5_isDrawn_16 rfl) rfl
theorem dX5_isDrawn_30 : decode cX5_isDrawn 30 = .ok (.ireturn, 1) := o_172 (u1_14 hc_X5_isDrawn_16 rfl) rfl
theorem hc_X5_drawSaid_0 : ((bL cX5_drawSaid).drop 0).take 18 = [3, 60, 27, 42, 180, 0, 43, 180, 0, 74, 162, 0, 70, 42, 27, 182, 0, 78] := by decide +kernel
theorem dX5_drawSaid_0 : decode cX5_drawSaid 0 = .ok (.iconst 0, 1) := o_3 (u1_0 hc_X5_drawSaid_0 rfl) rfl
theorem dX5_drawSaid_1 : decode cX5_drawSaid 1 = .ok (.istore_n 1, 1) := o_60 (u1_1 hc_X5_drawSaid_0 rfl) rfl
theorem dX5_drawSaid_2 : decode cX5_drawSaid 2 = .ok (.iload_n 1, 1) := o_27 (u1_2 hc_X5_drawSaid_0 rfl) rfl
theorem dX5_drawSaid_3 : decode cX5_drawSaid 3 = .ok (.aload_n 0, 1) := o_42 (u1_3 hc_X5_drawSaid_0 rfl) rfl
theorem dX5_drawSaid_4 : decode cX5_drawSaid 4 = .ok (.getfield 43, 3) := o_180 (u1_4 hc_X5_drawSaid_0 rfl) (u2_d (u1_5 hc_X5_drawSaid_0 rfl) (u1_6 hc_X5_drawSaid_0 rfl) rfl) rfl
theorem dX5_drawSaid_7 : decode cX5_drawSaid 7 = .ok (.getfield 74, 3) := o_180 (u1_7 hc_X5_drawSaid_0 rfl) (u2_d (u1_8 hc_X5_drawSaid_0 rfl) (u1_9 hc_X5_drawSaid_0 rfl) rfl) rfl
theorem dX5_drawSaid_10 : decode cX5_drawSaid 10 = .ok (.if_icmp .ge 70, 3) := o_162 (u1_10 hc_X5_drawSaid_0 rfl) (s2_d (u2_d (u1_11 hc_X5_drawSaid_0 rfl) (u1_12 hc_X5_drawSaid_0 rfl) rfl) rfl) rfl
theorem dX5_drawSaid_13 : decode cX5_drawSaid 13 = .ok (.aload_n 0, 1) := o_42 (u1_13 hc_X5_drawSaid_0 rfl) rfl
theorem dX5_drawSaid_14 : decode cX5_drawSaid 14 = .ok (.iload_n 1, 1) := o_27 (u1_14 hc_X5_drawSaid_0 rfl) rfl
theorem dX5_drawSaid_15 : decode cX5_drawSaid 15 = .ok (.invokevirtual 78, 3) := o_182 (u1_15 hc_X5_drawSaid_0 rfl) (u2_d (u1_16 hc_X5_drawSaid_0 rfl) (u1_17 hc_X5_drawSaid_0 rfl) rfl) rfl
theorem hc_X5_drawSaid_16 : ((bL cX5_drawSaid).drop 16).take 18 = [0, 78, 153, 0, 56, 42, 180, 0, 43, 180, 0, 82, 27, 46, 16, 10, 104, 42] := by decide +kernel
theorem dX5_drawSaid_18 : decode cX5_drawSaid 18 = .ok (.ifCond .eq 56, 3) := o_153 (u1_2 hc_X5_drawSaid_16 rfl) (s2_d (u2_d (u1_3 hc_X5_drawSaid_16 rfl) (u1_4 hc_X5_drawSaid_16 rfl) rfl) rfl) rfl
theorem dX5_drawSaid_21 : decode cX5_drawSaid 21 = .ok (.aload_n 0, 1) := o_42 (u1_5 hc_X5_drawSaid_16 rfl) rfl
theorem dX5_drawSaid_22 : decode cX5_drawSaid 22 = .ok (.getfield 43, 3) := o_180 (u1_6 hc_X5_drawSaid_16 rfl) (u2_d (u1_7 hc_X5_drawSaid_16 rfl) (u1_8 hc_X5_drawSaid_16 rfl) rfl) rfl
theorem dX5_drawSaid_25 : decode cX5_drawSaid 25 = .ok (.getfield 82, 3) := o_180 (u1_9 hc_X5_drawSaid_16 rfl) (u2_d (u1_10 hc_X5_drawSaid_16 rfl) (u1_11 hc_X5_drawSaid_16 rfl) rfl) rfl
theorem dX5_drawSaid_28 : decode cX5_drawSaid 28 = .ok (.iload_n 1, 1) := o_27 (u1_12 hc_X5_drawSaid_16 rfl) rfl
theorem dX5_drawSaid_29 : decode cX5_drawSaid 29 = .ok (.iaload, 1) := o_46 (u1_13 hc_X5_drawSaid_16 rfl) rfl
theorem dX5_drawSaid_30 : decode cX5_drawSaid 30 = .ok (.bipush 10, 2) := o_16 (u1_14 hc_X5_drawSaid_16 rfl) (s1_d (u1_15 hc_X5_drawSaid_16 rfl) rfl) rfl
theorem hc_X5_drawSaid_32 : ((bL cX5_drawSaid).drop 32).take 18 = [104, 42, 180, 0, 43, 180, 0, 85, 27, 46, 96, 61, 42, 180, 0, 18, 28, 27] := by decide +kernel
theorem dX5_drawSaid_32 : decode cX5_drawSaid 32 = .ok (.imul, 1) := o_104 (u1_0 hc_X5_drawSaid_32 rfl) rfl
theorem dX5_drawSaid_33 : decode cX5_drawSaid 33 = .ok (.aload_n 0, 1) := o_42 (u1_1 hc_X5_drawSaid_32 rfl) rfl
theorem dX5_drawSaid_34 : decode cX5_drawSaid 34 = .ok (.getfield 43, 3) := o_180 (u1_2 hc_X5_drawSaid_32 rfl) (u2_d (u1_3 hc_X5_drawSaid_32 rfl) (u1_4 hc_X5_drawSaid_32 rfl) rfl) rfl
theorem dX5_drawSaid_37 : decode cX5_drawSaid 37 = .ok (.getfield 85, 3) := o_180 (u1_5 hc_X5_drawSaid_32 rfl) (u2_d (u1_6 hc_X5_drawSaid_32 rfl) (u1_7 hc_X5_drawSaid_32 rfl) rfl) rfl
theorem dX5_drawSaid_40 : decode cX5_drawSaid 40 = .ok (.iload_n 1, 1) := o_27 (u1_8 hc_X5_drawSaid_32 rfl) rfl
theorem dX5_drawSaid_41 : decode cX5_drawSaid 41 = .ok (.iaload, 1) := o_46 (u1_9 hc_X5_drawSaid_32 rfl) rfl
theorem dX5_drawSaid_42 : decode cX5_drawSaid 42 = .ok (.iadd, 1) := o_96 (u1_10 hc_X5_drawSaid_32 rfl) rfl
theorem dX5_drawSaid_43 : decode cX5_drawSaid 43 = .ok (.istore_n 2, 1) := o_61 (u1_11 hc_X5_drawSaid_32 rfl) rfl
theorem dX5_drawSaid_44 : decode cX5_drawSaid 44 = .ok (.aload_n 0, 1) := o_42 (u1_12 hc_X5_drawSaid_32 rfl) rfl
theorem dX5_drawSaid_45 : decode cX5_drawSaid 45 = .ok (.getfield 18, 3) := o_180 (u1_13 hc_X5_drawSaid_32 rfl) (u2_d (u1_14 hc_X5_drawSaid_32 rfl) (u1_15 hc_X5_drawSaid_32 rfl) rfl) rfl
theorem hc_X5_drawSaid_48 : ((bL cX5_drawSaid).drop 48).take 18 = [28, 27, 79, 42, 28, 42, 180, 0, 43, 180, 0, 82, 27, 46, 42, 180, 0, 43] := by decide +kernel
theorem dX5_drawSaid_48 : decode cX5_drawSaid 48 = .ok (.iload_n 2, 1) := o_28 (u1_0 hc_X5_drawSaid_48 rfl) rfl
theorem dX5_drawSaid_49 : decode cX5_drawSaid 49 = .ok (.iload_n 1, 1) := o_27 (u1_1 hc_X5_drawSaid_48 rfl) rfl
theorem dX5_drawSaid_50 : decode cX5_drawSaid 50 = .ok (.iastore, 1) := o_79 (u1_2 hc_X5_drawSaid_48 rfl) rfl
theorem dX5_drawSaid_51 : decode cX5_drawSaid 51 = .ok (.aload_n 0, 1) := o_42 (u1_3 hc_X5_drawSaid_48 rfl) rfl
theorem dX5_drawSaid_52 : decode cX5_drawSaid 52 = .ok (.iload_n 2, 1) := o_28 (u1_4 hc_X5_drawSaid_48 rfl) rfl
theorem dX5_drawSaid_53 : decode cX5_drawSaid 53 = .ok (.aload_n 0, 1) := o_42 (u1_5 hc_X5_drawSaid_48 rfl) rfl
theorem dX5_drawSaid_54 : decode cX5_drawSaid 54 = .ok (.getfield 43, 3) := o_180 (u1_6 hc_X5_drawSaid_48 rfl) (u2_d (u1_7 hc_X5_drawSaid_48 rfl) (u1_8 hc_X5_drawSaid_48 rfl) rfl) rfl
theorem dX5_drawSaid_57 : decode cX5_drawSaid 57 = .ok (.getfield 82, 3) := o_180 (u1_9 hc_X5_drawSaid_48 rfl) (u2_d (u1_10 hc_X5_drawSaid_48 rfl) (u1_11 hc_X5_drawSaid_48 rfl) rfl) rfl
theorem dX5_drawSaid_60 : decode cX5_drawSaid 60 = .ok (.iload_n 1, 1) := o_27 (u1_12 hc_X5_drawSaid_48 rfl) rfl
theorem dX5_drawSaid_61 : decode cX5_drawSaid 61 = .ok (.iaload, 1) := o_46 (u1_13 hc_X5_drawSaid_48 rfl) rfl
theorem dX5_drawSaid_62 : decode cX5_drawSaid 62 = .ok (.aload_n 0, 1) := o_42 (u1_14 hc_X5_drawSaid_48 rfl) rfl
theorem dX5_drawSaid_63 : decode cX5_drawSaid 63 = .ok (.getfield 43, 3) := o_180 (u1_15 hc_X5_drawSaid_48 rfl) (u2_d (u1_16 hc_X5_drawSaid_48 rfl) (u1_17 hc_X5_drawSaid_48 rfl) rfl) rfl
theorem hc_X5_drawSaid_64 : ((bL cX5_drawSaid).drop 64).take 18 = [0, 43, 180, 0, 88, 27, 46, 182, 0, 91, 132, 1, 1, 167, 255, 181, 177] := by decide +kernel
theorem dX5_drawSaid_66 : decode cX5_drawSaid 66 = .ok (.getfield 88, 3) := o_180 (u1_2 hc_X5_drawSaid_64 rfl) (u2_d (u1_3 hc_X5_drawSaid_64 rfl) (u1_4 hc_X5_drawSaid_64 rfl) rfl) rfl
theorem dX5_drawSaid_69 : decode cX5_drawSaid 69 = .ok (.iload_n 1, 1) := o_27 (u1_5 hc_X5_drawSaid_64 rfl) rfl
theorem dX5_drawSaid_70 : decode cX5_drawSaid 70 = .ok (.iaload, 1) := o_46 (u1_6 hc_X5_drawSaid_64 rfl) rfl
theorem dX5_drawSaid_71 : decode cX5_drawSaid 71 = .ok (.invokevirtual 91, 3) := o_182 (u1_7 hc_X5_drawSaid_64 rfl) (u2_d (u1_8 hc_X5_drawSaid_64 rfl) (u1_9 hc_X5_drawSaid_64 rfl) rfl) rfl
theorem dX5_drawSaid_74 : decode cX5_drawSaid 74 = .ok (.iinc 1 1, 3) := o_132 (u1_10 hc_X5_drawSaid_64 rfl) (u1_11 hc_X5_drawSaid_64 rfl) (s1_d (u1_12 hc_X5_drawSaid_64 rfl) rfl) rfl
theorem dX5_drawSaid_77 : decode cX5_drawSaid 77 = .ok (.goto (-75), 3) := o_167 (u1_13 hc_X5_drawSaid_64 rfl) (s2_d (u2_d (u1_14 hc_X5_drawSaid_64 rfl) (u1_15 hc_X5_drawSaid_64 rfl) rfl) rfl) rfl
theorem hc_X5_drawSaid_80 : ((bL cX5_drawSaid).drop 80).take 18 = [177] := by decide +kernel
theorem dX5_drawSaid_80 : decode cX5_drawSaid 80 = .ok (.return_, 1) := o_177 (u1_0 hc_X5_drawSaid_80 rfl) rfl
theorem hc_X5_drawTarget_0 : ((bL cX5_drawTarget).drop 0).take 18 = [42, 180, 0, 39, 29, 182, 0, 95, 154, 0, 11, 42, 180, 0, 9, 27, 29, 79] := by decide +kernel
theorem dX5_drawTarget_0 : decode cX5_drawTarget 0 = .ok (.aload_n 0, 1) := o_42 (u1_0 hc_X5_drawTarget_0 rfl) rfl
theorem dX5_drawTarget_1 : decode cX5_drawTarget 1 = .ok (.getfield 39, 3) := o_180 (u1_1 hc_X5_drawTarget_0 rfl) (u2_d (u1_2 hc_X5_drawTarget_0 rfl) (u1_3 hc_X5_drawTarget_0 rfl) rfl) rfl
theorem dX5_drawTarget_4 : decode cX5_drawTarget 4 = .ok (.iload_n 3, 1) := o_29 (u1_4 hc_X5_drawTarget_0 rfl) rfl
theorem dX5_drawTarget_5 : decode cX5_drawTarget 5 = .ok (.invokevirtual 95, 3) := o_182 (u1_5 hc_X5_drawTarget_0 rfl) (u2_d (u1_6 hc_X5_drawTarget_0 rfl) (u1_7 hc_X5_drawTarget_0 rfl) rfl) rfl
theorem dX5_drawTarget_8 : decode cX5_drawTarget 8 = .ok (.ifCond .ne 11, 3) := o_154 (u1_8 hc_X5_drawTarget_0 rfl) (s2_d (u2_d (u1_9 hc_X5_drawTarget_0 rfl) (u1_10 hc_X5_drawTarget_0 rfl) rfl) rfl) rfl
theorem dX5_drawTarget_11 : decode cX5_drawTarget 11 = .ok (.aload_n 0, 1) := o_42 (u1_11 hc_X5_drawTarget_0 rfl) rfl
theorem dX5_drawTarget_12 : decode cX5_drawTarget 12 = .ok (.getfield 9, 3) := o_180 (u1_12 hc_X5_drawTarget_0 rfl) (u2_d (u1_13 hc_X5_drawTarget_0 rfl) (u1_14 hc_X5_drawTarget_0 rfl) rfl) rfl
theorem dX5_drawTarget_15 : decode cX5_drawTarget 15 = .ok (.iload_n 1, 1) := o_27 (u1_15 hc_X5_drawTarget_0 rfl) rfl
theorem hc_X5_drawTarget_16 : ((bL cX5_drawTarget).drop 16).take 18 = [29, 79, 177, 42, 180, 0, 15, 27, 29, 79, 42, 180, 0, 24, 29, 46, 16, 247] := by decide +kernel
theorem dX5_drawTarget_16 : decode cX5_drawTarget 16 = .ok (.iload_n 3, 1) := o_29 (u1_0 hc_X5_drawTarget_16 rfl) rfl
theorem dX5_drawTarget_17 : decode cX5_drawTarget 17 = .ok (.iastore, 1) := o_79 (u1_1 hc_X5_drawTarget_16 rfl) rfl
theorem dX5_drawTarget_18 : decode cX5_drawTarget 18 = .ok (.return_, 1) := o_177 (u1_2 hc_X5_drawTarget_16 rfl) rfl
theorem dX5_drawTarget_19 : decode cX5_drawTarget 19 = .ok (.aload_n 0, 1) := o_42 (u1_3 hc_X5_drawTarget_16 rfl) rfl
theorem dX5_drawTarget_20 : decode cX5_drawTarget 20 = .ok (.getfield 15, 3) := o_180 (u1_4 hc_X5_drawTarget_16 rfl) (u2_d (u1_5 hc_X5_drawTarget_16 rfl) (u1_6 hc_X5_drawTarget_16 rfl) rfl) rfl
theorem dX5_drawTarget_23 : decode cX5_drawTarget 23 = .ok (.iload_n 1, 1) := o_27 (u1_7 hc_X5_drawTarget_16 rfl) rfl
theorem dX5_drawTarget_24 : decode cX5_drawTarget 24 = .ok (.iload_n 3, 1) := o_29 (u1_8 hc_X5_drawTarget_16 rfl) rfl
theorem dX5_drawTarget_25 : decode cX5_drawTarget 25 = .ok (.iastore, 1) := o_79 (u1_9 hc_X5_drawTarget_16 rfl) rfl
theorem dX5_drawTarget_26 : decode cX5_drawTarget 26 = .ok (.aload_n 0, 1) := o_42 (u1_10 hc_X5_drawTarget_16 rfl) rfl
theorem dX5_drawTarget_27 : decode cX5_drawTarget 27 = .ok (.getfield 24, 3) := o_180 (u1_11 hc_X5_drawTarget_16 rfl) (u2_d (u1_12 hc_X5_drawTarget_16 rfl) (u1_13 hc_X5_drawTarget_16 rfl) rfl) rfl
theorem dX5_drawTarget_30 : decode cX5_drawTarget 30 = .ok (.iload_n 3, 1) := o_29 (u1_14 hc_X5_drawTarget_16 rfl) rfl
theorem dX5_drawTarget_31 : decode cX5_drawTarget 31 = .ok (.iaload, 1) := o_46 (u1_15 hc_X5_drawTarget_16 rfl) rfl
theorem hc_X5_drawTarget_32 : ((bL cX5_drawTarget).drop 32).take 18 = [16, 247, 160, 0, 13, 42, 180, 0, 24, 29, 28, 79, 167, 0, 10, 42, 180, 0] := by decide +kernel
theorem dX5_drawTarget_32 : decode cX5_drawTarget 32 = .ok (.bipush (-9), 2) := o_16 (u1_0 hc_X5_drawTarget_32 rfl) (s1_d (u1_1 hc_X5_drawTarget_32 rfl) rfl) rfl
theorem dX5_drawTarget_34 : decode cX5_drawTarget 34 = .ok (.if_icmp .ne 13, 3) := o_160 (u1_2 hc_X5_drawTarget_32 rfl) (s2_d (u2_d (u1_3 hc_X5_drawTarget_32 rfl) (u1_4 hc_X5_drawTarget_32 rfl) rfl) rfl) rfl
theorem dX5_drawTarget_37 : decode cX5_drawTarget 37 = .ok (.aload_n 0, 1) := o_42 (u1_5 hc_X5_drawTarget_32 rfl) rfl
theorem dX5_drawTarget_38 : decode cX5_drawTarget 38 = .ok (.getfield 24, 3) := o_180 (u1_6 hc_X5_drawTarget_32 rfl) (u2_d (u1_7 hc_X5_drawTarget_32 rfl) (u1_8 hc_X5_drawTarget_32 rfl) rfl) rfl
theorem dX5_drawTarget_41 : decode cX5_drawTarget 41 = .ok (.iload_n 3, 1) := o_29 (u1_9 hc_X5_drawTarget_32 rfl) rfl
theorem dX5_drawTarget_42 : decode cX5_drawTarget 42 = .ok (.iload_n 2, 1) := o_28 (u1_10 hc_X5_drawTarget_32 rfl) rfl
theorem dX5_drawTarget_43 : decode cX5_drawTarget 43 = .ok (.iastore, 1) := o_79 (u1_11 hc_X5_drawTarget_32 rfl) rfl
theorem dX5_drawTarget_44 : decode cX5_drawTarget 44 = .ok (.goto 10, 3) := o_167 (u1_12 hc_X5_drawTarget_32 rfl) (s2_d (u2_d (u1_13 hc_X5_drawTarget_32 rfl) (u1_14 hc_X5_drawTarget_32 rfl) rfl) rfl) rfl
theorem dX5_drawTarget_47 : decode cX5_drawTarget 47 = .ok (.aload_n 0, 1) := o_42 (u1_15 hc_X5_drawTarget_32 rfl) rfl
theorem hc_X5_drawTarget_48 : ((bL cX5_drawTarget).drop 48).take 18 = [180, 0, 27, 29, 28, 79, 177] := by decide +kernel
theorem dX5_drawTarget_48 : decode cX5_drawTarget 48 = .ok (.getfield 27, 3) := o_180 (u1_0 hc_X5_drawTarget_48 rfl) (u2_d (u1_1 hc_X5_drawTarget_48 rfl) (u1_2 hc_X5_drawTarget_48 rfl) rfl) rfl
theorem dX5_drawTarget_51 : decode cX5_drawTarget 51 = .ok (.iload_n 3, 1) := o_29 (u1_3 hc_X5_drawTarget_48 rfl) rfl
theorem dX5_drawTarget_52 : decode cX5_drawTarget 52 = .ok (.iload_n 2, 1) := o_28 (u1_4 hc_X5_drawTarget_48 rfl) rfl
theorem dX5_drawTarget_53 : decode cX5_drawTarget 53 = .ok (.iastore, 1) := o_79 (u1_5 hc_X5_drawTarget_48 rfl) rfl
theorem dX5_drawTarget_54 : decode cX5_drawTarget 54 = .ok (.return_, 1) := o_177 (u1_6 hc_X5_drawTarget_48 rfl) rfl
theorem hc_X5_drawImplied_0 : ((bL cX5_drawImplied).drop 0).take 18 = [3, 60, 27, 42, 180, 0, 43, 180, 0, 74, 162, 0, 101, 42, 27, 182, 0, 78] := by decide +kernel
theorem dX5_drawImplied_0 : decode cX5_drawImplied 0 = .ok (.iconst 0, 1) := o_3 (u1_0 hc_X5_drawImplied_0 rfl) rfl
theorem dX5_drawImplied_1 : decode cX5_drawImplied 1 = .ok (.istore_n 1, 1) := o_60 (u1_1 hc_X5_drawImplied_0 rfl) rfl
theorem dX5_drawImplied_2 : decode cX5_drawImplied 2 = .ok (.iload_n 1, 1) := o_27 (u1_2 hc_X5_drawImplied_0 rfl) rfl
theorem dX5_drawImplied_3 : decode cX5_drawImplied 3 = .ok (.aload_n 0, 1) := o_42 (u1_3 hc_X5_drawImplied_0 rfl) rfl
theorem dX5_drawImplied_4 : decode cX5_drawImplied 4 = .ok (.getfield 43, 3) := o_180 (u1_4 hc_X5_drawImplied_0 rfl) (u2_d (u1_5 hc_X5_drawImplied_0 rfl) (u1_6 hc_X5_drawImplied_0 rfl) rfl) rfl
theorem dX5_drawImplied_7 : decode cX5_drawImplied 7 = .ok (.getfield 74, 3) := o_180 (u1_7 hc_X5_drawImplied_0 rfl) (u2_d (u1_8 hc_X5_drawImplied_0 rfl) (u1_9 hc_X5_drawImplied_0 rfl) rfl) rfl
theorem dX5_drawImplied_10 : decode cX5_drawImplied 10 = .ok (.if_icmp .ge 101, 3) := o_162 (u1_10 hc_X5_drawImplied_0 rfl) (s2_d (u2_d (u1_11 hc_X5_drawImplied_0 rfl) (u1_12 hc_X5_drawImplied_0 rfl) rfl) rfl) rfl
theorem dX5_drawImplied_13 : decode cX5_drawImplied 13 = .ok (.aload_n 0, 1) := o_42 (u1_13 hc_X5_drawImplied_0 rfl) rfl
theorem dX5_drawImplied_14 : decode cX5_drawImplied 14 = .ok (.iload_n 1, 1) := o_27 (u1_14 hc_X5_drawImplied_0 rfl) rfl
theorem dX5_drawImplied_15 : decode cX5_drawImplied 15 = .ok (.invokevirtual 78, 3) := o_182 (u1_15 hc_X5_drawImplied_0 rfl) (u2_d (u1_16 hc_X5_drawImplied_0 rfl) (u1_17 hc_X5_drawImplied_0 rfl) rfl) rfl
theorem hc_X5_drawImplied_16 : ((bL cX5_drawImplied).drop 16).take 18 = [0, 78, 153, 0, 87, 42, 180, 0, 39, 42, 180, 0, 43, 180, 0, 88, 27, 46] := by decide +kernel
theorem dX5_drawImplied_18 : decode cX5_drawImplied 18 = .ok (.ifCond .eq 87, 3) := o_153 (u1_2 hc_X5_drawImplied_16 rfl) (s2_d (u2_d (u1_3 hc_X5_drawImplied_16 rfl) (u1_4 hc_X5_drawImplied_16 rfl) rfl) rfl) rfl
theorem dX5_drawImplied_21 : decode cX5_drawImplied 21 = .ok (.aload_n 0, 1) := o_42 (u1_5 hc_X5_drawImplied_16 rfl) rfl
theorem dX5_drawImplied_22 : decode cX5_drawImplied 22 = .ok (.getfield 39, 3) := o_180 (u1_6 hc_X5_drawImplied_16 rfl) (u2_d (u1_7 hc_X5_drawImplied_16 rfl) (u1_8 hc_X5_drawImplied_16 rfl) rfl) rfl
theorem dX5_drawImplied_25 : decode cX5_drawImplied 25 = .ok (.aload_n 0, 1) := o_42 (u1_9 hc_X5_drawImplied_16 rfl) rfl
theorem dX5_drawImplied_26 : decode cX5_drawImplied 26 = .ok (.getfield 43, 3) := o_180 (u1_10 hc_X5_drawImplied_16 rfl) (u2_d (u1_11 hc_X5_drawImplied_16 rfl) (u1_12 hc_X5_drawImplied_16 rfl) rfl) rfl
theorem dX5_drawImplied_29 : decode cX5_drawImplied 29 = .ok (.getfield 88, 3) := o_180 (u1_13 hc_X5_drawImplied_16 rfl) (u2_d (u1_14 hc_X5_drawImplied_16 rfl) (u1_15 hc_X5_drawImplied_16 rfl) rfl) rfl
theorem hc_X5_drawImplied_32 : ((bL cX5_drawImplied).drop 32).take 18 = [27, 46, 182, 0, 95, 154, 0, 68, 42, 180, 0, 43, 180, 0, 88, 27, 46, 16] := by decide +kernel
theorem dX5_drawImplied_32 : decode cX5_drawImplied 32 = .ok (.iload_n 1, 1) := o_27 (u1_0 hc_X5_drawImplied_32 rfl) rfl
theorem dX5_drawImplied_33 : decode cX5_drawImplied 33 = .ok (.iaload, 1) := o_46 (u1_1 hc_X5_drawImplied_32 rfl) rfl
theorem dX5_drawImplied_34 : decode cX5_drawImplied 34 = .ok (.invokevirtual 95, 3) := o_182 (u1_2 hc_X5_drawImplied_32 rfl) (u2_d (u1_3 hc_X5_drawImplied_32 rfl) (u1_4 hc_X5_drawImplied_32 rfl) rfl) rfl
theorem dX5_drawImplied_37 : decode cX5_drawImplied 37 = .ok (.ifCond .ne 68, 3) := o_154 (u1_5 hc_X5_drawImplied_32 rfl) (s2_d (u2_d (u1_6 hc_X5_drawImplied_32 rfl) (u1_7 hc_X5_drawImplied_32 rfl) rfl) rfl) rfl
theorem dX5_drawImplied_40 : decode cX5_drawImplied 40 = .ok (.aload_n 0, 1) := o_42 (u1_8 hc_X5_drawImplied_32 rfl) rfl
theorem dX5_drawImplied_41 : decode cX5_drawImplied 41 = .ok (.getfield 43, 3) := o_180 (u1_9 hc_X5_drawImplied_32 rfl) (u2_d (u1_10 hc_X5_drawImplied_32 rfl) (u1_11 hc_X5_drawImplied_32 rfl) rfl) rfl
theorem dX5_drawImplied_44 : decode cX5_drawImplied 44 = .ok (.getfield 88, 3) := o_180 (u1_12 hc_X5_drawImplied_32 rfl) (u2_d (u1_13 hc_X5_drawImplied_32 rfl) (u1_14 hc_X5_drawImplied_32 rfl) rfl) rfl
theorem dX5_drawImplied_47 : decode cX5_drawImplied 47 = .ok (.iload_n 1, 1) := o_27 (u1_15 hc_X5_drawImplied_32 rfl) rfl
theorem hc_X5_drawImplied_48 : ((bL cX5_drawImplied).drop 48).take 18 = [46, 16, 10, 104, 42, 180, 0, 43, 180, 0, 85, 27, 46, 4, 130, 96, 61, 42] := by decide +kernel
theorem dX5_drawImplied_48 : decode cX5_drawImplied 48 = .ok (.iaload, 1) := o_46 (u1_0 hc_X5_drawImplied_48 rfl) rfl
theorem dX5_drawImplied_49 : decode cX5_drawImplied 49 = .ok (.bipush 10, 2) := o_16 (u1_1 hc_X5_drawImplied_48 rfl) (s1_d (u1_2 hc_X5_drawImplied_48 rfl) rfl) rfl
theorem dX5_drawImplied_51 : decode cX5_drawImplied 51 = .ok (.imul, 1) := o_104 (u1_3 hc_X5_drawImplied_48 rfl) rfl
theorem dX5_drawImplied_52 : decode cX5_drawImplied 52 = .ok (.aload_n 0, 1) := o_42 (u1_4 hc_X5_drawImplied_48 rfl) rfl
theorem dX5_drawImplied_53 : decode cX5_drawImplied 53 = .ok (.getfield 43, 3) := o_180 (u1_5 hc_X5_drawImplied_48 rfl) (u2_d (u1_6 hc_X5_drawImplied_48 rfl) (u1_7 hc_X5_drawImplied_48 rfl) rfl) rfl
theorem dX5_drawImplied_56 : decode cX5_drawImplied 56 = .ok (.getfield 85, 3) := o_180 (u1_8 hc_X5_drawImplied_48 rfl) (u2_d (u1_9 hc_X5_drawImplied_48 rfl) (u1_10 hc_X5_drawImplied_48 rfl) rfl) rfl
theorem dX5_drawImplied_59 : decode cX5_drawImplied 59 = .ok (.iload_n 1, 1) := o_27 (u1_11 hc_X5_drawImplied_48 rfl) rfl
theorem dX5_drawImplied_60 : decode cX5_drawImplied 60 = .ok (.iaload, 1) := o_46 (u1_12 hc_X5_drawImplied_48 rfl) rfl
theorem dX5_drawImplied_61 : decode cX5_drawImplied 61 = .ok (.iconst 1, 1) := o_4 (u1_13 hc_X5_drawImplied_48 rfl) rfl
theorem dX5_drawImplied_62 : decode cX5_drawImplied 62 = .ok (.ixor, 1) := o_130 (u1_14 hc_X5_drawImplied_48 rfl) rfl
theorem dX5_drawImplied_63 : decode cX5_drawImplied 63 = .ok (.iadd, 1) := o_96 (u1_15 hc_X5_drawImplied_48 rfl) rfl
theorem hc_X5_drawImplied_64 : ((bL cX5_drawImplied).drop 64).take 18 = [61, 42, 180, 0, 18, 28, 46, 16, 247, 160, 0, 32, 42, 180, 0, 18, 28, 27] := by decide +kernel
theorem dX5_drawImplied_64 : decode cX5_drawImplied 64 = .ok (.istore_n 2, 1) := o_61 (u1_0 hc_X5_drawImplied_64 rfl) rfl
theorem dX5_drawImplied_65 : decode cX5_drawImplied 65 = .ok (.aload_n 0, 1) := o_42 (u1_1 hc_X5_drawImplied_64 rfl) rfl
theorem dX5_drawImplied_66 : decode cX5_drawImplied 66 = .ok (.getfield 18, 3) := o_180 (u1_2 hc_X5_drawImplied_64 rfl) (u2_d (u1_3 hc_X5_drawImplied_64 rfl) (u1_4 hc_X5_drawImplied_64 rfl) rfl) rfl
theorem dX5_drawImplied_69 : decode cX5_drawImplied 69 = .ok (.iload_n 2, 1) := o_28 (u1_5 hc_X5_drawImplied_64 rfl) rfl
theorem dX5_drawImplied_70 : decode cX5_drawImplied 70 = .ok (.iaload, 1) := o_46 (u1_6 hc_X5_drawImplied_64 rfl) rfl
theorem dX5_drawImplied_71 : decode cX5_drawImplied 71 = .ok (.bipush (-9), 2) := o_16 (u1_7 hc_X5_drawImplied_64 rfl) (s1_d (u1_8 hc_X5_drawImplied_64 rfl) rfl) rfl
theorem dX5_drawImplied_73 : decode cX5_drawImplied 73 = .ok (.if_icmp .ne 32, 3) := o_160 (u1_9 hc_X5_drawImplied_64 rfl) (s2_d (u2_d (u1_10 hc_X5_drawImplied_64 rfl) (u1_11 hc_X5_drawImplied_64 rfl) rfl) rfl) rfl
theorem dX5_drawImplied_76 : decode cX5_drawImplied 76 = .ok (.aload_n 0, 1) := o_42 (u1_12 hc_X5_drawImplied_64 rfl) rfl
theorem dX5_drawImplied_77 : decode cX5_drawImplied 77 = .ok (.getfield 18, 3) := o_180 (u1_13 hc_X5_drawImplied_64 rfl) (u2_d (u1_14 hc_X5_drawImplied_64 rfl) (u1_15 hc_X5_drawImplied_64 rfl) rfl) rfl
theorem hc_X5_drawImplied_80 : ((bL cX5_drawImplied).drop 80).take 18 = [28, 27, 79, 42, 180, 0, 9, 28, 42, 180, 0, 43, 180, 0, 82, 27, 46, 79] := by decide +kernel
theorem dX5_drawImplied_80 : decode cX5_drawImplied 80 = .ok (.iload_n 2, 1) := o_28 (u1_0 hc_X5_drawImplied_80 rfl) rfl
theorem dX5_drawImplied_81 : decode cX5_drawImplied 81 = .ok (.iload_n 1, 1) := o_27 (u1_1 hc_X5_drawImplied_80 rfl) rfl
theorem dX5_drawImplied_82 : decode cX5_drawImplied 82 = .ok (.iastore, 1) := o_79 (u1_2 hc_X5_drawImplied_80 rfl) rfl
theorem dX5_drawImplied_83 : decode cX5_drawImplied 83 = .ok (.aload_n 0, 1) := o_42 (u1_3 hc_X5_drawImplied_80 rfl) rfl
theorem dX5_drawImplied_84 : decode cX5_drawImplied 84 = .ok (.getfield 9, 3) := o_180 (u1_4 hc_X5_drawImplied_80 rfl) (u2_d (u1_5 hc_X5_drawImplied_80 rfl) (u1_6 hc_X5_drawImplied_80 rfl) rfl) rfl
theorem dX5_drawImplied_87 : decode cX5_drawImplied 87 = .ok (.iload_n 2, 1) := o_28 (u1_7 hc_X5_drawImplied_80 rfl) rfl
theorem dX5_drawImplied_88 : decode cX5_drawImplied 88 = .ok (.aload_n 0, 1) := o_42 (u1_8 hc_X5_drawImplied_80 rfl) rfl
theorem dX5_drawImplied_89 : decode cX5_drawImplied 89 = .ok (.getfield 43, 3) := o_180 (u1_9 hc_X5_drawImplied_80 rfl) (u2_d (u1_10 hc_X5_drawImplied_80 rfl) (u1_11 hc_X5_drawImplied_80 rfl) rfl) rfl
theorem dX5_drawImplied_92 : decode cX5_drawImplied 92 = .ok (.getfield 82, 3) := o_180 (u1_12 hc_X5_drawImplied_80 rfl) (u2_d (u1_13 hc_X5_drawImplied_80 rfl) (u1_14 hc_X5_drawImplied_80 rfl) rfl) rfl
theorem dX5_drawImplied_95 : decode cX5_drawImplied 95 = .ok (.iload_n 1, 1) := o_27 (u1_15 hc_X5_drawImplied_80 rfl) rfl
theorem hc_X5_drawImplied_96 : ((bL cX5_drawImplied).drop 96).take 18 = [46, 79, 42, 180, 0, 21, 28, 4, 79, 132, 1, 1, 167, 255, 150, 177] := by decide +kernel
theorem dX5_drawImplied_96 : decode cX5_drawImplied 96 = .ok (.iaload, 1) := o_46 (u1_0 hc_X5_drawImplied_96 rfl) rfl
theorem dX5_drawImplied_97 : decode cX5_drawImplied 97 = .ok (.iastore, 1) := o_79 (u1_1 hc_X5_drawImplied_96 rfl) rfl
theorem dX5_drawImplied_98 : decode cX5_drawImplied 98 = .ok (.aload_n 0, 1) := o_42 (u1_2 hc_X5_drawImplied_96 rfl) rfl
theorem dX5_drawImplied_99 : decode cX5_drawImplied 99 = .ok (.getfield 21, 3) := o_180 (u1_3 hc_X5_drawImplied_96 rfl) (u2_d (u1_4 hc_X5_drawImplied_96 rfl) (u1_5 hc_X5_drawImplied_96 rfl) rfl) rfl
theorem dX5_drawImplied_102 : decode cX5_drawImplied 102 = .ok (.iload_n 2, 1) := o_28 (u1_6 hc_X5_drawImplied_96 rfl) rfl
theorem dX5_drawImplied_103 : decode cX5_drawImplied 103 = .ok (.iconst 1, 1) := o_4 (u1_7 hc_X5_drawImplied_96 rfl) rfl
theorem dX5_drawImplied_104 : decode cX5_drawImplied 104 = .ok (.iastore, 1) := o_79 (u1_8 hc_X5_drawImplied_96 rfl) rfl
theorem dX5_drawImplied_105 : decode cX5_drawImplied 105 = .ok (.iinc 1 1, 3) := o_132 (u1_9 hc_X5_drawImplied_96 rfl) (u1_10 hc_X5_drawImplied_96 rfl) (s1_d (u1_11 hc_X5_drawImplied_96 rfl) rfl) rfl
theorem dX5_drawImplied_108 : decode cX5_drawImplied 108 = .ok (.goto (-106), 3) := o_167 (u1_12 hc_X5_drawImplied_96 rfl) (s2_d (u2_d (u1_13 hc_X5_drawImplied_96 rfl) (u1_14 hc_X5_drawImplied_96 rfl) rfl) rfl) rfl
theorem dX5_drawImplied_111 : decode cX5_drawImplied 111 = .ok (.return_, 1) := o_177 (u1_15 hc_X5_drawImplied_96 rfl) rfl
theorem hc_X5_drawThroughDoors_0 : ((bL cX5_drawThroughDoors).drop 0).take 18 = [3, 60, 27, 42, 180, 0, 15, 190, 162, 0, 66, 42, 180, 0, 15, 27, 46, 61] := by decide +kernel
theorem dX5_drawThroughDoors_0 : decode cX5_drawThroughDoors 0 = .ok (.iconst 0, 1) := o_3 (u1_0 hc_X5_drawThroughDoors_0 rfl) rfl
theorem dX5_drawThroughDoors_1 : decode cX5_drawThroughDoors 1 = .ok (.istore_n 1, 1) := o_60 (u1_1 hc_X5_drawThroughDoors_0 rfl) rfl
theorem dX5_drawThroughDoors_2 : decode cX5_drawThroughDoors 2 = .ok (.iload_n 1, 1) := o_27 (u1_2 hc_X5_drawThroughDoors_0 rfl) rfl
theorem dX5_drawThroughDoors_3 : decode cX5_drawThroughDoors 3 = .ok (.aload_n 0, 1) := o_42 (u1_3 hc_X5_drawThroughDoors_0 rfl) rfl
theorem dX5_drawThroughDoors_4 : decode cX5_drawThroughDoors 4 = .ok (.getfield 15, 3) := o_180 (u1_4 hc_X5_drawThroughDoors_0 rfl) (u2_d (u1_5 hc_X5_drawThroughDoors_0 rfl) (u1_6 hc_X5_drawThroughDoors_0 rfl) rfl) rfl
theorem dX5_drawThroughDoors_7 : decode cX5_drawThroughDoors 7 = .ok (.arraylength, 1) := o_190 (u1_7 hc_X5_drawThroughDoors_0 rfl) rfl
theorem dX5_drawThroughDoors_8 : decode cX5_drawThroughDoors 8 = .ok (.if_icmp .ge 66, 3) := o_162 (u1_8 hc_X5_drawThroughDoors_0 rfl) (s2_d (u2_d (u1_9 hc_X5_drawThroughDoors_0 rfl) (u1_10 hc_X5_drawThroughDoors_0 rfl) rfl) rfl) rfl
theorem dX5_drawThroughDoors_11 : decode cX5_drawThroughDoors 11 = .ok (.aload_n 0, 1) := o_42 (u1_11 hc_X5_drawThroughDoors_0 rfl) rfl
theorem dX5_drawThroughDoors_12 : decode cX5_drawThroughDoors 12 = .ok (.getfield 15, 3) := o_180 (u1_12 hc_X5_drawThroughDoors_0 rfl) (u2_d (u1_13 hc_X5_drawThroughDoors_0 rfl) (u1_14 hc_X5_drawThroughDoors_0 rfl) rfl) rfl
theorem dX5_drawThroughDoors_15 : decode cX5_drawThroughDoors 15 = .ok (.iload_n 1, 1) := o_27 (u1_15 hc_X5_drawThroughDoors_0 rfl) rfl
theorem hc_X5_drawThroughDoors_16 : ((bL cX5_drawThroughDoors).drop 16).take 18 = [46, 61, 28, 16, 247, 159, 0, 47, 42, 180, 0, 24, 28, 46, 27, 16, 10, 108] := by decide +kernel
theorem dX5_drawThroughDoors_16 : decode cX5_drawThroughDoors 16 = .ok (.iaload, 1) := o_46 (u1_0 hc_X5_drawThroughDoors_16 rfl) rfl
theorem dX5_drawThroughDoors_17 : decode cX5_drawThroughDoors 17 = .ok (.istore_n 2, 1) := o_61 (u1_1 hc_X5_drawThroughDoors_16 rfl) rfl
theorem dX5_drawThroughDoors_18 : decode cX5_drawThroughDoors 18 = .ok (.iload_n 2, 1) := o_28 (u1_2 hc_X5_drawThroughDoors_16 rfl) rfl
theorem dX5_drawThroughDoors_19 : decode cX5_drawThroughDoors 19 = .ok (.bipush (-9), 2) := o_16 (u1_3 hc_X5_drawThroughDoors_16 rfl) (s1_d (u1_4 hc_X5_drawThroughDoors_16 rfl) rfl) rfl
theorem dX5_drawThroughDoors_21 : decode cX5_drawThroughDoors 21 = .ok (.if_icmp .eq 47, 3) := o_159 (u1_5 hc_X5_drawThroughDoors_16 rfl) (s2_d (u2_d (u1_6 hc_X5_drawThroughDoors_16 rfl) (u1_7 hc_X5_drawThroughDoors_16 rfl) rfl) rfl) rfl
theorem dX5_drawThroughDoors_24 : decode cX5_drawThroughDoors 24 = .ok (.aload_n 0, 1) := o_42 (u1_8 hc_X5_drawThroughDoors_16 rfl) rfl
theorem dX5_drawThroughDoors_25 : decode cX5_drawThroughDoors 25 = .ok (.getfield 24, 3) := o_180 (u1_9 hc_X5_drawThroughDoors_16 rfl) (u2_d (u1_10 hc_X5_drawThroughDoors_16 rfl) (u1_11 hc_X5_drawThroughDoors_16 rfl) rfl) rfl
theorem dX5_drawThroughDoors_28 : decode cX5_drawThroughDoors 28 = .ok (.iload_n 2, 1) := o_28 (u1_12 hc_X5_drawThroughDoors_16 rfl) rfl
theorem dX5_drawThroughDoors_29 : decode cX5_drawThroughDoors 29 = .ok (.iaload, 1) := o_46 (u1_13 hc_X5_drawThroughDoors_16 rfl) rfl
theorem dX5_drawThroughDoors_30 : decode cX5_drawThroughDoors 30 = .ok (.iload_n 1, 1) := o_27 (u1_14 hc_X5_drawThroughDoors_16 rfl) rfl
theorem dX5_drawThroughDoors_31 : decode cX5_drawThroughDoors 31 = .ok (.bipush 10, 2) := o_16 (u1_15 hc_X5_drawThroughDoors_16 rfl) (s1_d (u1_16 hc_X5_drawThroughDoors_16 rfl) rfl) rfl
theorem hc_X5_drawThroughDoors_32 : ((bL cX5_drawThroughDoors).drop 32).take 18 = [10, 108, 160, 0, 7, 4, 167, 0, 4, 3, 62, 42, 180, 0, 9, 27, 29, 153] := by decide +kernel
theorem dX5_drawThroughDoors_33 : decode cX5_drawThroughDoors 33 = .ok (.idiv, 1) := o_108 (u1_1 hc_X5_drawThroughDoors_32 rfl) rfl
theorem dX5_drawThroughDoors_34 : decode cX5_drawThroughDoors 34 = .ok (.if_icmp .ne 7, 3) := o_160 (u1_2 hc_X5_drawThroughDoors_32 rfl) (s2_d (u2_d (u1_3 hc_X5_drawThroughDoors_32 rfl) (u1_4 hc_X5_drawThroughDoors_32 rfl) rfl) rfl) rfl
theorem dX5_drawThroughDoors_37 : decode cX5_drawThroughDoors 37 = .ok (.iconst 1, 1) := o_4 (u1_5 hc_X5_drawThroughDoors_32 rfl) rfl
theorem dX5_drawThroughDoors_38 : decode cX5_drawThroughDoors 38 = .ok (.goto 4, 3) := o_167 (u1_6 hc_X5_drawThroughDoors_32 rfl) (s2_d (u2_d (u1_7 hc_X5_drawThroughDoors_32 rfl) (u1_8 hc_X5_drawThroughDoors_32 rfl) rfl) rfl) rfl
theorem dX5_drawThroughDoors_41 : decode cX5_drawThroughDoors 41 = .ok (.iconst 0, 1) := o_3 (u1_9 hc_X5_drawThroughDoors_32 rfl) rfl
theorem dX5_drawThroughDoors_42 : decode cX5_drawThroughDoors 42 = .ok (.istore_n 3, 1) := o_62 (u1_10 hc_X5_drawThroughDoors_32 rfl) rfl
theorem dX5_drawThroughDoors_43 : decode cX5_drawThroughDoors 43 = .ok (.aload_n 0, 1) := o_42 (u1_11 hc_X5_drawThroughDoors_32 rfl) rfl
theorem dX5_drawThroughDoors_44 : decode cX5_drawThroughDoors 44 = .ok (.getfield 9, 3) := o_180 (u1_12 hc_X5_drawThroughDoors_32 rfl) (u2_d (u1_13 hc_X5_drawThroughDoors_32 rfl) (u1_14 hc_X5_drawThroughDoors_32 rfl) rfl) rfl
theorem dX5_drawThroughDoors_47 : decode cX5_drawThroughDoors 47 = .ok (.iload_n 1, 1) := o_27 (u1_15 hc_X5_drawThroughDoors_32 rfl) rfl
theorem hc_X5_drawThroughDoors_48 : ((bL cX5_drawThroughDoors).drop 48).take 18 = [29, 153, 0, 12, 42, 180, 0, 27, 28, 46, 167, 0, 9, 42, 180, 0, 24, 28] := by decide +kernel
theorem dX5_drawThroughDoors_48 : decode cX5_drawThroughDoors 48 = .ok (.iload_n 3, 1) := o_29 (u1_0 hc_X5_drawThroughDoors_48 rfl) rfl
theorem dX5_drawThroughDoors_49 : decode cX5_drawThroughDoors 49 = .ok (.ifCond .eq 12, 3) := o_153 (u1_1 hc_X5_drawThroughDoors_48 rfl) (s2_d (u2_d (u1_2 hc_X5_drawThroughDoors_48 rfl) (u1_3 hc_X5_drawThroughDoors_48 rfl) rfl) rfl) rfl
theorem dX5_drawThroughDoors_52 : decode cX5_drawThroughDoors 52 = .ok (.aload_n 0, 1) := o_42 (u1_4 hc_X5_drawThroughDoors_48 rfl) rfl
theorem dX5_drawThroughDoors_53 : decode cX5_drawThroughDoors 53 = .ok (.getfield 27, 3) := o_180 (u1_5 hc_X5_drawThroughDoors_48 rfl) (u2_d (u1_6 hc_X5_drawThroughDoors_48 rfl) (u1_7 hc_X5_drawThroughDoors_48 rfl) rfl) rfl
theorem dX5_drawThroughDoors_56 : decode cX5_drawThroughDoors 56 = .ok (.iload_n 2, 1) := o_28 (u1_8 hc_X5_drawThroughDoors_48 rfl) rfl
theorem dX5_drawThroughDoors_57 : decode cX5_drawThroughDoors 57 = .ok (.iaload, 1) := o_46 (u1_9 hc_X5_drawThroughDoors_48 rfl) rfl
theorem dX5_drawThroughDoors_58 : decode cX5_drawThroughDoors 58 = .ok (.goto 9, 3) := o_167 (u1_10 hc_X5_drawThroughDoors_48 rfl) (s2_d (u2_d (u1_11 hc_X5_drawThroughDoors_48 rfl) (u1_12 hc_X5_drawThroughDoors_48 rfl) rfl) rfl) rfl
theorem dX5_drawThroughDoors_61 : decode cX5_drawThroughDoors 61 = .ok (.aload_n 0, 1) := o_42 (u1_13 hc_X5_drawThroughDoors_48 rfl) rfl
theorem dX5_drawThroughDoors_62 : decode cX5_drawThroughDoors 62 = .ok (.getfield 24, 3) := o_180 (u1_14 hc_X5_drawThroughDoors_48 rfl) (u2_d (u1_15 hc_X5_drawThroughDoors_48 rfl) (u1_16 hc_X5_drawThroughDoors_48 rfl) rfl) rfl
theorem hc_X5_drawThroughDoors_64 : ((bL cX5_drawThroughDoors).drop 64).take 18 = [24, 28, 46, 79, 132, 1, 1, 167, 255, 187, 177] := by decide +kernel
theorem dX5_drawThroughDoors_65 : decode cX5_drawThroughDoors 65 = .ok (.iload_n 2, 1) := o_28 (u1_1 hc_X5_drawThroughDoors_64 rfl) rfl
theorem dX5_drawThroughDoors_66 : decode cX5_drawThroughDoors 66 = .ok (.iaload, 1) := o_46 (u1_2 hc_X5_drawThroughDoors_64 rfl) rfl
theorem dX5_drawThroughDoors_67 : decode cX5_drawThroughDoors 67 = .ok (.iastore, 1) := o_79 (u1_3 hc_X5_drawThroughDoors_64 rfl) rfl
theorem dX5_drawThroughDoors_68 : decode cX5_drawThroughDoors 68 = .ok (.iinc 1 1, 3) := o_132 (u1_4 hc_X5_drawThroughDoors_64 rfl) (u1_5 hc_X5_drawThroughDoors_64 rfl) (s1_d (u1_6 hc_X5_drawThroughDoors_64 rfl) rfl) rfl
theorem dX5_drawThroughDoors_71 : decode cX5_drawThroughDoors 71 = .ok (.goto (-69), 3) := o_167 (u1_7 hc_X5_drawThroughDoors_64 rfl) (s2_d (u2_d (u1_8 hc_X5_drawThroughDoors_64 rfl) (u1_9 hc_X5_drawThroughDoors_64 rfl) rfl) rfl) rfl
theorem dX5_drawThroughDoors_74 : decode cX5_drawThroughDoors 74 = .ok (.return_, 1) := o_177 (u1_10 hc_X5_drawThroughDoors_64 rfl) rfl
theorem hc_X5_tellOf_0 : ((bL cX5_tellOf).drop 0).take 18 = [42, 180, 0, 18, 27, 46, 16, 247, 160, 0, 6, 16, 247, 172, 28, 170, 0, 0] := by decide +kernel
theorem dX5_tellOf_0 : decode cX5_tellOf 0 = .ok (.aload_n 0, 1) := o_42 (u1_0 hc_X5_tellOf_0 rfl) rfl
theorem dX5_tellOf_1 : decode cX5_tellOf 1 = .ok (.getfield 18, 3) := o_180 (u1_1 hc_X5_tellOf_0 rfl) (u2_d (u1_2 hc_X5_tellOf_0 rfl) (u1_3 hc_X5_tellOf_0 rfl) rfl) rfl
theorem dX5_tellOf_4 : decode cX5_tellOf 4 = .ok (.iload_n 1, 1) := o_27 (u1_4 hc_X5_tellOf_0 rfl) rfl
theorem dX5_tellOf_5 : decode cX5_tellOf 5 = .ok (.iaload, 1) := o_46 (u1_5 hc_X5_tellOf_0 rfl) rfl
theorem dX5_tellOf_6 : decode cX5_tellOf 6 = .ok (.bipush (-9), 2) := o_16 (u1_6 hc_X5_tellOf_0 rfl) (s1_d (u1_7 hc_X5_tellOf_0 rfl) rfl) rfl
theorem dX5_tellOf_8 : decode cX5_tellOf 8 = .ok (.if_icmp .ne 6, 3) := o_160 (u1_8 hc_X5_tellOf_0 rfl) (s2_d (u2_d (u1_9 hc_X5_tellOf_0 rfl) (u1_10 hc_X5_tellOf_0 rfl) rfl) rfl) rfl
theorem dX5_tellOf_11 : decode cX5_tellOf 11 = .ok (.bipush (-9), 2) := o_16 (u1_11 hc_X5_tellOf_0 rfl) (s1_d (u1_12 hc_X5_tellOf_0 rfl) rfl) rfl
theorem dX5_tellOf_13 : decode cX5_tellOf 13 = .ok (.ireturn, 1) := o_172 (u1_13 hc_X5_tellOf_0 rfl) rfl
theorem dX5_tellOf_14 : decode cX5_tellOf 14 = .ok (.iload_n 2, 1) := o_28 (u1_14 hc_X5_tellOf_0 rfl) rfl
theorem dX5_tellOf_15 : decode cX5_tellOf 15 = .ok (.tableswitch 52 0 2 #[25, 34, 43], 25) := by decide +kernel
theorem hc_X5_tellOf_32 : ((bL cX5_tellOf).drop 32).take 18 = [0, 0, 0, 34, 0, 0, 0, 43, 42, 180, 0, 9, 27, 46, 167, 0, 27, 42] := by decide +kernel
theorem dX5_tellOf_40 : decode cX5_tellOf 40 = .ok (.aload_n 0, 1) := o_42 (u1_8 hc_X5_tellOf_32 rfl) rfl
theorem dX5_tellOf_41 : decode cX5_tellOf 41 = .ok (.getfield 9, 3) := o_180 (u1_9 hc_X5_tellOf_32 rfl) (u2_d (u1_10 hc_X5_tellOf_32 rfl) (u1_11 hc_X5_tellOf_32 rfl) rfl) rfl
theorem dX5_tellOf_44 : decode cX5_tellOf 44 = .ok (.iload_n 1, 1) := o_27 (u1_12 hc_X5_tellOf_32 rfl) rfl
theorem dX5_tellOf_45 : decode cX5_tellOf 45 = .ok (.iaload, 1) := o_46 (u1_13 hc_X5_tellOf_32 rfl) rfl
theorem dX5_tellOf_46 : decode cX5_tellOf 46 = .ok (.goto 27, 3) := o_167 (u1_14 hc_X5_tellOf_32 rfl) (s2_d (u2_d (u1_15 hc_X5_tellOf_32 rfl) (u1_16 hc_X5_tellOf_32 rfl) rfl) rfl) rfl
theorem hc_X5_tellOf_48 : ((bL cX5_tellOf).drop 48).take 18 = [27, 42, 180, 0, 15, 27, 46, 167, 0, 18, 42, 180, 0, 18, 27, 46, 167, 0] := by decide +kernel
theorem dX5_tellOf_49 : decode cX5_tellOf 49 = .ok (.aload_n 0, 1) := o_42 (u1_1 hc_X5_tellOf_48 rfl) rfl
theorem dX5_tellOf_50 : decode cX5_tellOf 50 = .ok (.getfield 15, 3) := o_180 (u1_2 hc_X5_tellOf_48 rfl) (u2_d (u1_3 hc_X5_tellOf_48 rfl) (u1_4 hc_X5_tellOf_48 rfl) rfl) rfl
theorem dX5_tellOf_53 : decode cX5_tellOf 53 = .ok (.iload_n 1, 1) := o_27 (u1_5 hc_X5_tellOf_48 rfl) rfl
theorem dX5_tellOf_54 : decode cX5_tellOf 54 = .ok (.iaload, 1) := o_46 (u1_6 hc_X5_tellOf_48 rfl) rfl
theorem dX5_tellOf_55 : decode cX5_tellOf 55 = .ok (.goto 18, 3) := o_167 (u1_7 hc_X5_tellOf_48 rfl) (s2_d (u2_d (u1_8 hc_X5_tellOf_48 rfl) (u1_9 hc_X5_tellOf_48 rfl) rfl) rfl) rfl
theorem dX5_tellOf_58 : decode cX5_tellOf 58 = .ok (.aload_n 0, 1) := o_42 (u1_10 hc_X5_tellOf_48 rfl) rfl
theorem dX5_tellOf_59 : decode cX5_tellOf 59 = .ok (.getfield 18, 3) := o_180 (u1_11 hc_X5_tellOf_48 rfl) (u2_d (u1_12 hc_X5_tellOf_48 rfl) (u1_13 hc_X5_tellOf_48 rfl) rfl) rfl
theorem dX5_tellOf_62 : decode cX5_tellOf 62 = .ok (.iload_n 1, 1) := o_27 (u1_14 hc_X5_tellOf_48 rfl) rfl
theorem dX5_tellOf_63 : decode cX5_tellOf 63 = .ok (.iaload, 1) := o_46 (u1_15 hc_X5_tellOf_48 rfl) rfl
theorem hc_X5_tellOf_64 : ((bL cX5_tellOf).drop 64).take 18 = [167, 0, 9, 42, 180, 0, 21, 27, 46, 172] := by decide +kernel
theorem dX5_tellOf_64 : decode cX5_tellOf 64 = .ok (.goto 9, 3) := o_167 (u1_0 hc_X5_tellOf_64 rfl) (s2_d (u2_d (u1_1 hc_X5_tellOf_64 rfl) (u1_2 hc_X5_tellOf_64 rfl) rfl) rfl) rfl
theorem dX5_tellOf_67 : decode cX5_tellOf 67 = .ok (.aload_n 0, 1) := o_42 (u1_3 hc_X5_tellOf_64 rfl) rfl
theorem dX5_tellOf_68 : decode cX5_tellOf 68 = .ok (.getfield 21, 3) := o_180 (u1_4 hc_X5_tellOf_64 rfl) (u2_d (u1_5 hc_X5_tellOf_64 rfl) (u1_6 hc_X5_tellOf_64 rfl) rfl) rfl
theorem dX5_tellOf_71 : decode cX5_tellOf 71 = .ok (.iload_n 1, 1) := o_27 (u1_7 hc_X5_tellOf_64 rfl) rfl
theorem dX5_tellOf_72 : decode cX5_tellOf 72 = .ok (.iaload, 1) := o_46 (u1_8 hc_X5_tellOf_64 rfl) rfl
theorem dX5_tellOf_73 : decode cX5_tellOf 73 = .ok (.ireturn, 1) := o_172 (u1_9 hc_X5_tellOf_64 rfl) rfl
theorem hc_X5_isSide_0 : ((bL cX5_isSide).drop 0).take 18 = [27, 16, 247, 159, 0, 27, 42, 180, 0, 24, 28, 46, 27, 159, 0, 13, 42, 180] := by decide +kernel
theorem dX5_isSide_0 : decode cX5_isSide 0 = .ok (.iload_n 1, 1) := o_27 (u1_0 hc_X5_isSide_0 rfl) rfl
theorem dX5_isSide_1 : decode cX5_isSide 1 = .ok (.bipush (-9), 2) := o_16 (u1_1 hc_X5_isSide_0 rfl) (s1_d (u1_2 hc_X5_isSide_0 rfl) rfl) rfl
theorem dX5_isSide_3 : decode cX5_isSide 3 = .ok (.if_icmp .eq 27, 3) := o_159 (u1_3 hc_X5_isSide_0 rfl) (s2_d (u2_d (u1_4 hc_X5_isSide_0 rfl) (u1_5 hc_X5_isSide_0 rfl) rfl) rfl) rfl
theorem dX5_isSide_6 : decode cX5_isSide 6 = .ok (.aload_n 0, 1) := o_42 (u1_6 hc_X5_isSide_0 rfl) rfl
theorem dX5_isSide_7 : decode cX5_isSide 7 = .ok (.getfield 24, 3) := o_180 (u1_7 hc_X5_isSide_0 rfl) (u2_d (u1_8 hc_X5_isSide_0 rfl) (u1_9 hc_X5_isSide_0 rfl) rfl) rfl
theorem dX5_isSide_10 : decode cX5_isSide 10 = .ok (.iload_n 2, 1) := o_28 (u1_10 hc_X5_isSide_0 rfl) rfl
theorem dX5_isSide_11 : decode cX5_isSide 11 = .ok (.iaload, 1) := o_46 (u1_11 hc_X5_isSide_0 rfl) rfl
theorem dX5_isSide_12 : decode cX5_isSide 12 = .ok (.iload_n 1, 1) := o_27 (u1_12 hc_X5_isSide_0 rfl) rfl
theorem dX5_isSide_13 : decode cX5_isSide 13 = .ok (.if_icmp .eq 13, 3) := o_159 (u1_13 hc_X5_isSide_0 rfl) (s2_d (u2_d (u1_14 hc_X5_isSide_0 rfl) (u1_15 hc_X5_isSide_0 rfl) rfl) rfl) rfl
theorem hc_X5_isSide_16 : ((bL cX5_isSide).drop 16).take 18 = [42, 180, 0, 27, 28, 46, 27, 160, 0, 7, 4, 167, 0, 4, 3, 172] := by decide +kernel
theorem dX5_isSide_16 : decode cX5_isSide 16 = .ok (.aload_n 0, 1) := o_42 (u1_0 hc_X5_isSide_16 rfl) rfl
theorem dX5_isSide_17 : decode cX5_isSide 17 = .ok (.getfield 27, 3) := o_180 (u1_1 hc_X5_isSide_16 rfl) (u2_d (u1_2 hc_X5_isSide_16 rfl) (u1_3 hc_X5_isSide_16 rfl) rfl) rfl
theorem dX5_isSide_20 : decode cX5_isSide 20 = .ok (.iload_n 2, 1) := o_28 (u1_4 hc_X5_isSide_16 rfl) rfl
theorem dX5_isSide_21 : decode cX5_isSide 21 = .ok (.iaload, 1) := o_46 (u1_5 hc_X5_isSide_16 rfl) rfl
theorem dX5_isSide_22 : decode cX5_isSide 22 = .ok (.iload_n 1, 1) := o_27 (u1_6 hc_X5_isSide_16 rfl) rfl
theorem dX5_isSide_23 : decode cX5_isSide 23 = .ok (.if_icmp .ne 7, 3) := o_160 (u1_7 hc_X5_isSide_16 rfl) (s2_d (u2_d (u1_8 hc_X5_isSide_16 rfl) (u1_9 hc_X5_isSide_16 rfl) rfl) rfl) rfl
theorem dX5_isSide_26 : decode cX5_isSide 26 = .ok (.iconst 1, 1) := o_4 (u1_10 hc_X5_isSide_16 rfl) rfl
theorem dX5_isSide_27 : decode cX5_isSide 27 = .ok (.goto 4, 3) := o_167 (u1_11 hc_X5_isSide_16 rfl) (s2_d (u2_d (u1_12 hc_X5_isSide_16 rfl) (u1_13 hc_X5_isSide_16 rfl) rfl) rfl) rfl
theorem dX5_isSide_30 : decode cX5_isSide 30 = .ok (.iconst 0, 1) := o_3 (u1_14 hc_X5_isSide_16 rfl) rfl
theorem dX5_isSide_31 : decode cX5_isSide 31 = .ok (.ireturn, 1) := o_172 (u1_15 hc_X5_isSide_16 rfl) rfl
theorem hc_X5_walkFrom_0 : ((bL cX5_walkFrom).drop 0).take 18 = [42, 180, 0, 30, 16, 247, 184, 0, 50, 42, 180, 0, 33, 16, 247, 184, 0, 50] := by decide +kernel
theorem dX5_walkFrom_0 : decode cX5_walkFrom 0 = .ok (.aload_n 0, 1) := o_42 (u1_0 hc_X5_walkFrom_0 rfl) rfl
theorem dX5_walkFrom_1 : decode cX5_walkFrom 1 = .ok (.getfield 30, 3) := o_180 (u1_1 hc_X5_walkFrom_0 rfl) (u2_d (u1_2 hc_X5_walkFrom_0 rfl) (u1_3 hc_X5_walkFrom_0 rfl) rfl) rfl
theorem dX5_walkFrom_4 : decode cX5_walkFrom 4 = .ok (.bipush (-9), 2) := o_16 (u1_4 hc_X5_walkFrom_0 rfl) (s1_d (u1_5 hc_X5_walkFrom_0 rfl) rfl) rfl
theorem dX5_walkFrom_6 : decode cX5_walkFrom 6 = .ok (.invokestatic 50, 3) := o_184 (u1_6 hc_X5_walkFrom_0 rfl) (u2_d (u1_7 hc_X5_walkFrom_0 rfl) (u1_8 hc_X5_walkFrom_0 rfl) rfl) rfl
theorem dX5_walkFrom_9 : decode cX5_walkFrom 9 = .ok (.aload_n 0, 1) := o_42 (u1_9 hc_X5_walkFrom_0 rfl) rfl
theorem dX5_walkFrom_10 : decode cX5_walkFrom 10 = .ok (.getfield 33, 3) := o_180 (u1_10 hc_X5_walkFrom_0 rfl) (u2_d (u1_11 hc_X5_walkFrom_0 rfl) (u1_12 hc_X5_walkFrom_0 rfl) rfl) rfl
theorem dX5_walkFrom_13 : decode cX5_walkFrom 13 = .ok (.bipush (-9), 2) := o_16 (u1_13 hc_X5_walkFrom_0 rfl) (s1_d (u1_14 hc_X5_walkFrom_0 rfl) rfl) rfl
theorem dX5_walkFrom_15 : decode cX5_walkFrom 15 = .ok (.invokestatic 50, 3) := o_184 (u1_15 hc_X5_walkFrom_0 rfl) (u2_d (u1_16 hc_X5_walkFrom_0 rfl) (u1_17 hc_X5_walkFrom_0 rfl) rfl) rfl
theorem hc_X5_walkFrom_16 : ((bL cX5_walkFrom).drop 16).take 18 = [0, 50, 42, 180, 0, 30, 27, 3, 79, 42, 180, 0, 36, 3, 27, 79, 4, 62] := by decide +kernel
theorem dX5_walkFrom_18 : decode cX5_walkFrom 18 = .ok (.aload_n 0, 1) := o_42 (u1_2 hc_X5_walkFrom_16 rfl) rfl
theorem dX5_walkFrom_19 : decode cX5_walkFrom 19 = .ok (.getfield 30, 3) := o_180 (u1_3 hc_X5_walkFrom_16 rfl) (u2_d (u1_4 hc_X5_walkFrom_16 rfl) (u1_5 hc_X5_walkFrom_16 rfl) rfl) rfl
theorem dX5_walkFrom_22 : decode cX5_walkFrom 22 = .ok (.iload_n 1, 1) := o_27 (u1_6 hc_X5_walkFrom_16 rfl) rfl
theorem dX5_walkFrom_23 : decode cX5_walkFrom 23 = .ok (.iconst 0, 1) := o_3 (u1_7 hc_X5_walkFrom_16 rfl) rfl
theorem dX5_walkFrom_24 : decode cX5_walkFrom 24 = .ok (.iastore, 1) := o_79 (u1_8 hc_X5_walkFrom_16 rfl) rfl
theorem dX5_walkFrom_25 : decode cX5_walkFrom 25 = .ok (.aload_n 0, 1) := o_42 (u1_9 hc_X5_walkFrom_16 rfl) rfl
theorem dX5_walkFrom_26 : decode cX5_walkFrom 26 = .ok (.getfield 36, 3) := o_180 (u1_10 hc_X5_walkFrom_16 rfl) (u2_d (u1_11 hc_X5_walkFrom_16 rfl) (u1_12 hc_X5_walkFrom_16 rfl) rfl) rfl
theorem dX5_walkFrom_29 : decode cX5_walkFrom 29 = .ok (.iconst 0, 1) := o_3 (u1_13 hc_X5_walkFrom_16 rfl) rfl
theorem dX5_walkFrom_30 : decode cX5_walkFrom 30 = .ok (.iload_n 1, 1) := o_27 (u1_14 hc_X5_walkFrom_16 rfl) rfl
theorem dX5_walkFrom_31 : decode cX5_walkFrom 31 = .ok (.iastore, 1) := o_79 (u1_15 hc_X5_walkFrom_16 rfl) rfl
theorem hc_X5_walkFrom_32 : ((bL cX5_walkFrom).drop 32).take 18 = [4, 62, 3, 54, 4, 21, 4, 29, 162, 0, 143, 21, 4, 16, 30, 162, 0, 136] := by decide +kernel
theorem dX5_walkFrom_32 : decode cX5_walkFrom 32 = .ok (.iconst 1, 1) := o_4 (u1_0 hc_X5_walkFrom_32 rfl) rfl
theorem dX5_walkFrom_33 : decode cX5_walkFrom 33 = .ok (.istore_n 3, 1) := o_62 (u1_1 hc_X5_walkFrom_32 rfl) rfl
theorem dX5_walkFrom_34 : decode cX5_walkFrom 34 = .ok (.iconst 0, 1) := o_3 (u1_2 hc_X5_walkFrom_32 rfl) rfl
theorem dX5_walkFrom_35 : decode cX5_walkFrom 35 = .ok (.istore 4, 2) := o_54 (u1_3 hc_X5_walkFrom_32 rfl) (u1_4 hc_X5_walkFrom_32 rfl) rfl
theorem dX5_walkFrom_37 : decode cX5_walkFrom 37 = .ok (.iload 4, 2) := o_21 (u1_5 hc_X5_walkFrom_32 rfl) (u1_6 hc_X5_walkFrom_32 rfl) rfl
theorem dX5_walkFrom_39 : decode cX5_walkFrom 39 = .ok (.iload_n 3, 1) := o_29 (u1_7 hc_X5_walkFrom_32 rfl) rfl
theorem dX5_walkFrom_40 : decode cX5_walkFrom 40 = .ok (.if_icmp .ge 143, 3) := o_162 (u1_8 hc_X5_walkFrom_32 rfl) (s2_d (u2_d (u1_9 hc_X5_walkFrom_32 rfl) (u1_10 hc_X5_walkFrom_32 rfl) rfl) rfl) rfl
theorem dX5_walkFrom_43 : decode cX5_walkFrom 43 = .ok (.iload 4, 2) := o_21 (u1_11 hc_X5_walkFrom_32 rfl) (u1_12 hc_X5_walkFrom_32 rfl) rfl
theorem dX5_walkFrom_45 : decode cX5_walkFrom 45 = .ok (.bipush 30, 2) := o_16 (u1_13 hc_X5_walkFrom_32 rfl) (s1_d (u1_14 hc_X5_walkFrom_32 rfl) rfl) rfl
theorem dX5_walkFrom_47 : decode cX5_walkFrom 47 = .ok (.if_icmp .ge 136, 3) := o_162 (u1_15 hc_X5_walkFrom_32 rfl) (s2_d (u2_d (u1_16 hc_X5_walkFrom_32 rfl) (u1_17 hc_X5_walkFrom_32 rfl) rfl) rfl) rfl
theorem hc_X5_walkFrom_48 : ((bL cX5_walkFrom).drop 48).take 18 = [0, 136, 42, 180, 0, 36, 21, 4, 46, 54, 5, 3, 54, 6, 21, 6, 16, 10] := by decide +kernel
theorem dX5_walkFrom_50 : decode cX5_walkFrom 50 = .ok (.aload_n 0, 1) := o_42 (u1_2 hc_X5_walkFrom_48 rfl) rfl
theorem dX5_walkFrom_51 : decode cX5_walkFrom 51 = .ok (.getfield 36, 3) := o_180 (u1_3 hc_X5_walkFrom_48 rfl) (u2_d (u1_4 hc_X5_walkFrom_48 rfl) (u1_5 hc_X5_walkFrom_48 rfl) rfl) rfl
theorem dX5_walkFrom_54 : decode cX5_walkFrom 54 = .ok (.iload 4, 2) := o_21 (u1_6 hc_X5_walkFrom_48 rfl) (u1_7 hc_X5_walkFrom_48 rfl) rfl
theorem dX5_walkFrom_56 : decode cX5_walkFrom 56 = .ok (.iaload, 1) := o_46 (u1_8 hc_X5_walkFrom_48 rfl) rfl
theorem dX5_walkFrom_57 : decode cX5_walkFrom 57 = .ok (.istore 5, 2) := o_54 (u1_9 hc_X5_walkFrom_48 rfl) (u1_10 hc_X5_walkFrom_48 rfl) rfl
theorem dX5_walkFrom_59 : decode cX5_walkFrom 59 = .ok (.iconst 0, 1) := o_3 (u1_11 hc_X5_walkFrom_48 rfl) rfl
theorem dX5_walkFrom_60 : decode cX5_walkFrom 60 = .ok (.istore 6, 2) := o_54 (u1_12 hc_X5_walkFrom_48 rfl) (u1_13 hc_X5_walkFrom_48 rfl) rfl
theorem dX5_walkFrom_62 : decode cX5_walkFrom 62 = .ok (.iload 6, 2) := o_21 (u1_14 hc_X5_walkFrom_48 rfl) (u1_15 hc_X5_walkFrom_48 rfl) rfl
theorem hc_X5_walkFrom_64 : ((bL cX5_walkFrom).drop 64).take 18 = [16, 10, 162, 0, 111, 42, 180, 0, 9, 21, 5, 16, 10, 104, 21, 6, 96, 46] := by decide +kernel
theorem dX5_walkFrom_64 : decode cX5_walkFrom 64 = .ok (.bipush 10, 2) := o_16 (u1_0 hc_X5_walkFrom_64 rfl) (s1_d (u1_1 hc_X5_walkFrom_64 rfl) rfl) rfl
theorem dX5_walkFrom_66 : decode cX5_walkFrom 66 = .ok (.if_icmp .ge 111, 3) := o_162 (u1_2 hc_X5_walkFrom_64 rfl) (s2_d (u2_d (u1_3 hc_X5_walkFrom_64 rfl) (u1_4 hc_X5_walkFrom_64 rfl) rfl) rfl) rfl
theorem dX5_walkFrom_69 : decode cX5_walkFrom 69 = .ok (.aload_n 0, 1) := o_42 (u1_5 hc_X5_walkFrom_64 rfl) rfl
theorem dX5_walkFrom_70 : decode cX5_walkFrom 70 = .ok (.getfield 9, 3) := o_180 (u1_6 hc_X5_walkFrom_64 rfl) (u2_d (u1_7 hc_X5_walkFrom_64 rfl) (u1_8 hc_X5_walkFrom_64 rfl) rfl) rfl
theorem dX5_walkFrom_73 : decode cX5_walkFrom 73 = .ok (.iload 5, 2) := o_21 (u1_9 hc_X5_walkFrom_64 rfl) (u1_10 hc_X5_walkFrom_64 rfl) rfl
theorem dX5_walkFrom_75 : decode cX5_walkFrom 75 = .ok (.bipush 10, 2) := o_16 (u1_11 hc_X5_walkFrom_64 rfl) (s1_d (u1_12 hc_X5_walkFrom_64 rfl) rfl) rfl
theorem dX5_walkFrom_77 : decode cX5_walkFrom 77 = .ok (.imul, 1) := o_104 (u1_13 hc_X5_walkFrom_64 rfl) rfl
theorem dX5_walkFrom_78 : decode cX5_walkFrom 78 = .ok (.iload 6, 2) := o_21 (u1_14 hc_X5_walkFrom_64 rfl) (u1_15 hc_X5_walkFrom_64 rfl) rfl
theorem hc_X5_walkFrom_80 : ((bL cX5_walkFrom).drop 80).take 18 = [96, 46, 54, 7, 21, 7, 16, 247, 159, 0, 83, 42, 180, 0, 30, 21, 7, 46] := by decide +kernel
theorem dX5_walkFrom_80 : decode cX5_walkFrom 80 = .ok (.iadd, 1) := o_96 (u1_0 hc_X5_walkFrom_80 rfl) rfl
theorem dX5_walkFrom_81 : decode cX5_walkFrom 81 = .ok (.iaload, 1) := o_46 (u1_1 hc_X5_walkFrom_80 rfl) rfl
theorem dX5_walkFrom_82 : decode cX5_walkFrom 82 = .ok (.istore 7, 2) := o_54 (u1_2 hc_X5_walkFrom_80 rfl) (u1_3 hc_X5_walkFrom_80 rfl) rfl
theorem dX5_walkFrom_84 : decode cX5_walkFrom 84 = .ok (.iload 7, 2) := o_21 (u1_4 hc_X5_walkFrom_80 rfl) (u1_5 hc_X5_walkFrom_80 rfl) rfl
theorem dX5_walkFrom_86 : decode cX5_walkFrom 86 = .ok (.bipush (-9), 2) := o_16 (u1_6 hc_X5_walkFrom_80 rfl) (s1_d (u1_7 hc_X5_walkFrom_80 rfl) rfl) rfl
theorem dX5_walkFrom_88 : decode cX5_walkFrom 88 = .ok (.if_icmp .eq 83, 3) := o_159 (u1_8 hc_X5_walkFrom_80 rfl) (s2_d (u2_d (u1_9 hc_X5_walkFrom_80 rfl) (u1_10 hc_X5_walkFrom_80 rfl) rfl) rfl) rfl
theorem dX5_walkFrom_91 : decode cX5_walkFrom 91 = .ok (.aload_n 0, 1) := o_42 (u1_11 hc_X5_walkFrom_80 rfl) rfl
theorem dX5_walkFrom_92 : decode cX5_walkFrom 92 = .ok (.getfield 30, 3) := o_180 (u1_12 hc_X5_walkFrom_80 rfl) (u2_d (u1_13 hc_X5_walkFrom_80 rfl) (u1_14 hc_X5_walkFrom_80 rfl) rfl) rfl
theorem dX5_walkFrom_95 : decode cX5_walkFrom 95 = .ok (.iload 7, 2) := o_21 (u1_15 hc_X5_walkFrom_80 rfl) (u1_16 hc_X5_walkFrom_80 rfl) rfl
theorem hc_X5_walkFrom_96 : ((bL cX5_walkFrom).drop 96).take 18 = [7, 46, 16, 247, 160, 0, 71, 42, 21, 5, 16, 10, 104, 21, 6, 96, 28, 182] := by decide +kernel
theorem dX5_walkFrom_97 : decode cX5_walkFrom 97 = .ok (.iaload, 1) := o_46 (u1_1 hc_X5_walkFrom_96 rfl) rfl
theorem dX5_walkFrom_98 : decode cX5_walkFrom 98 = .ok (.bipush (-9), 2) := o_16 (u1_2 hc_X5_walkFrom_96 rfl) (s1_d (u1_3 hc_X5_walkFrom_96 rfl) rfl) rfl
theorem dX5_walkFrom_100 : decode cX5_walkFrom 100 = .ok (.if_icmp .ne 71, 3) := o_160 (u1_4 hc_X5_walkFrom_96 rfl) (s2_d (u2_d (u1_5 hc_X5_walkFrom_96 rfl) (u1_6 hc_X5_walkFrom_96 rfl) rfl) rfl) rfl
theorem dX5_walkFrom_103 : decode cX5_walkFrom 103 = .ok (.aload_n 0, 1) := o_42 (u1_7 hc_X5_walkFrom_96 rfl) rfl
theorem dX5_walkFrom_104 : decode cX5_walkFrom 104 = .ok (.iload 5, 2) := o_21 (u1_8 hc_X5_walkFrom_96 rfl) (u1_9 hc_X5_walkFrom_96 rfl) rfl
theorem dX5_walkFrom_106 : decode cX5_walkFrom 106 = .ok (.bipush 10, 2) := o_16 (u1_10 hc_X5_walkFrom_96 rfl) (s1_d (u1_11 hc_X5_walkFrom_96 rfl) rfl) rfl
theorem dX5_walkFrom_108 : decode cX5_walkFrom 108 = .ok (.imul, 1) := o_104 (u1_12 hc_X5_walkFrom_96 rfl) rfl
theorem dX5_walkFrom_109 : decode cX5_walkFrom 109 = .ok (.iload 6, 2) := o_21 (u1_13 hc_X5_walkFrom_96 rfl) (u1_14 hc_X5_walkFrom_96 rfl) rfl
theorem dX5_walkFrom_111 : decode cX5_walkFrom 111 = .ok (.iadd, 1) := o_96 (u1_15 hc_X5_walkFrom_96 rfl) rfl
theorem hc_X5_walkFrom_112 : ((bL cX5_walkFrom).drop 112).take 18 = [28, 182, 0, 101, 153, 0, 55, 42, 180, 0, 30, 21, 7, 42, 180, 0, 30, 21] := by decide +kernel
theorem dX5_walkFrom_112 : decode cX5_walkFrom 112 = .ok (.iload_n 2, 1) := o_28 (u1_0 hc_X5_walkFrom_112 rfl) rfl
theorem dX5_walkFrom_113 : decode cX5_walkFrom 113 = .ok (.invokevirtual 101, 3) := o_182 (u1_1 hc_X5_walkFrom_112 rfl) (u2_d (u1_2 hc_X5_walkFrom_112 rfl) (u1_3 hc_X5_walkFrom_112 rfl) rfl) rfl
theorem dX5_walkFrom_116 : decode cX5_walkFrom 116 = .ok (.ifCond .eq 55, 3) := o_153 (u1_4 hc_X5_walkFrom_112 rfl) (s2_d (u2_d (u1_5 hc_X5_walkFrom_112 rfl) (u1_6 hc_X5_walkFrom_112 rfl) rfl) rfl) rfl
theorem dX5_walkFrom_119 : decode cX5_walkFrom 119 = .ok (.aload_n 0, 1) := o_42 (u1_7 hc_X5_walkFrom_112 rfl) rfl
theorem dX5_walkFrom_120 : decode cX5_walkFrom 120 = .ok (.getfield 30, 3) := o_180 (u1_8 hc_X5_walkFrom_112 rfl) (u2_d (u1_9 hc_X5_walkFrom_112 rfl) (u1_10 hc_X5_walkFrom_112 rfl) rfl) rfl
theorem dX5_walkFrom_123 : decode cX5_walkFrom 123 = .ok (.iload 7, 2) := o_21 (u1_11 hc_X5_walkFrom_112 rfl) (u1_12 hc_X5_walkFrom_112 rfl) rfl
theorem dX5_walkFrom_125 : decode cX5_walkFrom 125 = .ok (.aload_n 0, 1) := o_42 (u1_13 hc_X5_walkFrom_112 rfl) rfl
theorem dX5_walkFrom_126 : decode cX5_walkFrom 126 = .ok (.getfield 30, 3) := o_180 (u1_14 hc_X5_walkFrom_112 rfl) (u2_d (u1_15 hc_X5_walkFrom_112 rfl) (u1_16 hc_X5_walkFrom_112 rfl) rfl) rfl
theorem hc_X5_walkFrom_128 : ((bL cX5_walkFrom).drop 128).take 18 = [30, 21, 5, 46, 4, 96, 79, 42, 180, 0, 33, 21, 7, 21, 5, 27, 160, 0] := by decide +kernel
theorem dX5_walkFrom_129 : decode cX5_walkFrom 129 = .ok (.iload 5, 2) := o_21 (u1_1 hc_X5_walkFrom_128 rfl) (u1_2 hc_X5_walkFrom_128 rfl) rfl
theorem dX5_walkFrom_131 : decode cX5_walkFrom 131 = .ok (.iaload, 1) := o_46 (u1_3 hc_X5_walkFrom_128 rfl) rfl
theorem dX5_walkFrom_132 : decode cX5_walkFrom 132 = .ok (.iconst 1, 1) := o_4 (u1_4 hc_X5_walkFrom_128 rfl) rfl
theorem dX5_walkFrom_133 : decode cX5_walkFrom 133 = .ok (.iadd, 1) := o_96 (u1_5 hc_X5_walkFrom_128 rfl) rfl
theorem dX5_walkFrom_134 : decode cX5_walkFrom 134 = .ok (.iastore, 1) := o_79 (u1_6 hc_X5_walkFrom_128 rfl) rfl
theorem dX5_walkFrom_135 : decode cX5_walkFrom 135 = .ok (.aload_n 0, 1) := o_42 (u1_7 hc_X5_walkFrom_128 rfl) rfl
theorem dX5_walkFrom_136 : decode cX5_walkFrom 136 = .ok (.getfield 33, 3) := o_180 (u1_8 hc_X5_walkFrom_128 rfl) (u2_d (u1_9 hc_X5_walkFrom_128 rfl) (u1_10 hc_X5_walkFrom_128 rfl) rfl) rfl
theorem dX5_walkFrom_139 : decode cX5_walkFrom 139 = .ok (.iload 7, 2) := o_21 (u1_11 hc_X5_walkFrom_128 rfl) (u1_12 hc_X5_walkFrom_128 rfl) rfl
theorem dX5_walkFrom_141 : decode cX5_walkFrom 141 = .ok (.iload 5, 2) := o_21 (u1_13 hc_X5_walkFrom_128 rfl) (u1_14 hc_X5_walkFrom_128 rfl) rfl
theorem dX5_walkFrom_143 : decode cX5_walkFrom 143 = .ok (.iload_n 1, 1) := o_27 (u1_15 hc_X5_walkFrom_128 rfl) rfl
theorem hc_X5_walkFrom_144 : ((bL cX5_walkFrom).drop 144).take 18 = [160, 0, 8, 21, 6, 167, 0, 10, 42, 180, 0, 33, 21, 5, 46, 79, 42, 180] := by decide +kernel
theorem dX5_walkFrom_144 : decode cX5_walkFrom 144 = .ok (.if_icmp .ne 8, 3) := o_160 (u1_0 hc_X5_walkFrom_144 rfl) (s2_d (u2_d (u1_1 hc_X5_walkFrom_144 rfl) (u1_2 hc_X5_walkFrom_144 rfl) rfl) rfl) rfl
theorem dX5_walkFrom_147 : decode cX5_walkFrom 147 = .ok (.iload 6, 2) := o_21 (u1_3 hc_X5_walkFrom_144 rfl) (u1_4 hc_X5_walkFrom_144 rfl) rfl
theorem dX5_walkFrom_149 : decode cX5_walkFrom 149 = .ok (.goto 10, 3) := o_167 (u1_5 hc_X5_walkFrom_144 rfl) (s2_d (u2_d (u1_6 hc_X5_walkFrom_144 rfl) (u1_7 hc_X5_walkFrom_144 rfl) rfl) rfl) rfl
theorem dX5_walkFrom_152 : decode cX5_walkFrom 152 = .ok (.aload_n 0, 1) := o_42 (u1_8 hc_X5_walkFrom_144 rfl) rfl
theorem dX5_walkFrom_153 : decode cX5_walkFrom 153 = .ok (.getfield 33, 3) := o_180 (u1_9 hc_X5_walkFrom_144 rfl) (u2_d (u1_10 hc_X5_walkFrom_144 rfl) (u1_11 hc_X5_walkFrom_144 rfl) rfl) rfl
theorem dX5_walkFrom_156 : decode cX5_walkFrom 156 = .ok (.iload 5, 2) := o_21 (u1_12 hc_X5_walkFrom_144 rfl) (u1_13 hc_X5_walkFrom_144 rfl) rfl
theorem dX5_walkFrom_158 : decode cX5_walkFrom 158 = .ok (.iaload, 1) := o_46 (u1_14 hc_X5_walkFrom_144 rfl) rfl
theorem dX5_walkFrom_159 : decode cX5_walkFrom 159 = .ok (.iastore, 1) := o_79 (u1_15 hc_X5_walkFrom_144 rfl) rfl
theorem hc_X5_walkFrom_160 : ((bL cX5_walkFrom).drop 160).take 18 = [42, 180, 0, 36, 29, 132, 3, 1, 21, 7, 79, 132, 6, 1, 167, 255, 144, 132] := by decide +kernel
theorem dX5_walkFrom_160 : decode cX5_walkFrom 160 = .ok (.aload_n 0, 1) := o_42 (u1_0 hc_X5_walkFrom_160 rfl) rfl
theorem dX5_walkFrom_161 : decode cX5_walkFrom 161 = .ok (.getfield 36, 3) := o_180 (u1_1 hc_X5_walkFrom_160 rfl) (u2_d (u1_2 hc_X5_walkFrom_160 rfl) (u1_3 hc_X5_walkFrom_160 rfl) rfl) rfl
theorem dX5_walkFrom_164 : decode cX5_walkFrom 164 = .ok (.iload_n 3, 1) := o_29 (u1_4 hc_X5_walkFrom_160 rfl) rfl
theorem dX5_walkFrom_165 : decode cX5_walkFrom 165 = .ok (.iinc 3 1, 3) := o_132 (u1_5 hc_X5_walkFrom_160 rfl) (u1_6 hc_X5_walkFrom_160 rfl) (s1_d (u1_7 hc_X5_walkFrom_160 rfl) rfl) rfl
theorem dX5_walkFrom_168 : decode cX5_walkFrom 168 = .ok (.iload 7, 2) := o_21 (u1_8 hc_X5_walkFrom_160 rfl) (u1_9 hc_X5_walkFrom_160 rfl) rfl
theorem dX5_walkFrom_170 : decode cX5_walkFrom 170 = .ok (.iastore, 1) := o_79 (u1_10 hc_X5_walkFrom_160 rfl) rfl
theorem dX5_walkFrom_171 : decode cX5_walkFrom 171 = .ok (.iinc 6 1, 3) := o_132 (u1_11 hc_X5_walkFrom_160 rfl) (u1_12 hc_X5_walkFrom_160 rfl) (s1_d (u1_13 hc_X5_walkFrom_160 rfl) rfl) rfl
theorem dX5_walkFrom_174 : decode cX5_walkFrom 174 = .ok (.goto (-112), 3) := o_167 (u1_14 hc_X5_walkFrom_160 rfl) (s2_d (u2_d (u1_15 hc_X5_walkFrom_160 rfl) (u1_16 hc_X5_walkFrom_160 rfl) rfl) rfl) rfl
theorem hc_X5_walkFrom_176 : ((bL cX5_walkFrom).drop 176).take 18 = [144, 132, 4, 1, 167, 255, 113, 177] := by decide +kernel
theorem dX5_walkFrom_177 : decode cX5_walkFrom 177 = .ok (.iinc 4 1, 3) := o_132 (u1_1 hc_X5_walkFrom_176 rfl) (u1_2 hc_X5_walkFrom_176 rfl) (s1_d (u1_3 hc_X5_walkFrom_176 rfl) rfl) rfl
theorem dX5_walkFrom_180 : decode cX5_walkFrom 180 = .ok (.goto (-143), 3) := o_167 (u1_4 hc_X5_walkFrom_176 rfl) (s2_d (u2_d (u1_5 hc_X5_walkFrom_176 rfl) (u1_6 hc_X5_walkFrom_176 rfl) rfl) rfl) rfl
theorem dX5_walkFrom_183 : decode cX5_walkFrom 183 = .ok (.return_, 1) := o_177 (u1_7 hc_X5_walkFrom_176 rfl) rfl
theorem hc_X5_isPassable_0 : ((bL cX5_isPassable).drop 0).take 18 = [28, 153, 0, 32, 42, 180, 0, 15, 27, 46, 16, 247, 159, 0, 21, 42, 180, 0] := by decide +kernel
theorem dX5_isPassable_0 : decode cX5_isPassable 0 = .ok (.iload_n 2, 1) := o_28 (u1_0 hc_X5_isPassable_0 rfl) rfl
theorem dX5_isPassable_1 : decode cX5_isPassable 1 = .ok (.ifCond .eq 32, 3) := o_153 (u1_1 hc_X5_isPassable_0 rfl) (s2_d (u2_d (u1_2 hc_X5_isPassable_0 rfl) (u1_3 hc_X5_isPassable_0 rfl) rfl) rfl) rfl
theorem dX5_isPassable_4 : decode cX5_isPassable 4 = .ok (.aload_n 0, 1) := o_42 (u1_4 hc_X5_isPassable_0 rfl) rfl
theorem dX5_isPassable_5 : decode cX5_isPassable 5 = .ok (.getfield 15, 3) := o_180 (u1_5 hc_X5_isPassable_0 rfl) (u2_d (u1_6 hc_X5_isPassable_0 rfl) (u1_7 hc_X5_isPassable_0 rfl) rfl) rfl
theorem dX5_isPassable_8 : decode cX5_isPassable 8 = .ok (.iload_n 1, 1) := o_27 (u1_8 hc_X5_isPassable_0 rfl) rfl
theorem dX5_isPassable_9 : decode cX5_isPassable 9 = .ok (.iaload, 1) := o_46 (u1_9 hc_X5_isPassable_0 rfl) rfl
theorem dX5_isPassable_10 : decode cX5_isPassable 10 = .ok (.bipush (-9), 2) := o_16 (u1_10 hc_X5_isPassable_0 rfl) (s1_d (u1_11 hc_X5_isPassable_0 rfl) rfl) rfl
theorem dX5_isPassable_12 : decode cX5_isPassable 12 = .ok (.if_icmp .eq 21, 3) := o_159 (u1_12 hc_X5_isPassable_0 rfl) (s2_d (u2_d (u1_13 hc_X5_isPassable_0 rfl) (u1_14 hc_X5_isPassable_0 rfl) rfl) rfl) rfl
theorem dX5_isPassable_15 : decode cX5_isPassable 15 = .ok (.aload_n 0, 1) := o_42 (u1_15 hc_X5_isPassable_0 rfl) rfl
theorem hc_X5_isPassable_16 : ((bL cX5_isPassable).drop 16).take 18 = [180, 0, 43, 42, 180, 0, 15, 27, 46, 3, 182, 0, 105, 4, 160, 0, 7, 4] := by decide +kernel
theorem dX5_isPassable_16 : decode cX5_isPassable 16 = .ok (.getfield 43, 3) := o_180 (u1_0 hc_X5_isPassable_16 rfl) (u2_d (u1_1 hc_X5_isPassable_16 rfl) (u1_2 hc_X5_isPassable_16 rfl) rfl) rfl
theorem dX5_isPassable_19 : decode cX5_isPassable 19 = .ok (.aload_n 0, 1) := o_42 (u1_3 hc_X5_isPassable_16 rfl) rfl
theorem dX5_isPassable_20 : decode cX5_isPassable 20 = .ok (.getfield 15, 3) := o_180 (u1_4 hc_X5_isPassable_16 rfl) (u2_d (u1_5 hc_X5_isPassable_16 rfl) (u1_6 hc_X5_isPassable_16 rfl) rfl) rfl
theorem dX5_isPassable_23 : decode cX5_isPassable 23 = .ok (.iload_n 1, 1) := o_27 (u1_7 hc_X5_isPassable_16 rfl) rfl
theorem dX5_isPassable_24 : decode cX5_isPassable 24 = .ok (.iaload, 1) := o_46 (u1_8 hc_X5_isPassable_16 rfl) rfl
theorem dX5_isPassable_25 : decode cX5_isPassable 25 = .ok (.iconst 0, 1) := o_3 (u1_9 hc_X5_isPassable_16 rfl) rfl
theorem dX5_isPassable_26 : decode cX5_isPassable 26 = .ok (.invokevirtual 105, 3) := o_182 (u1_10 hc_X5_isPassable_16 rfl) (u2_d (u1_11 hc_X5_isPassable_16 rfl) (u1_12 hc_X5_isPassable_16 rfl) rfl) rfl
theorem dX5_isPassable_29 : decode cX5_isPassable 29 = .ok (.iconst 1, 1) := o_4 (u1_13 hc_X5_isPassable_16 rfl) rfl
theorem dX5_isPassable_30 : decode cX5_isPassable 30 = .ok (.if_icmp .ne 7, 3) := o_160 (u1_14 hc_X5_isPassable_16 rfl) (s2_d (u2_d (u1_15 hc_X5_isPassable_16 rfl) (u1_16 hc_X5_isPassable_16 rfl) rfl) rfl) rfl
theorem hc_X5_isPassable_32 : ((bL cX5_isPassable).drop 32).take 18 = [7, 4, 167, 0, 4, 3, 172] := by decide +kernel
theorem dX5_isPassable_33 : decode cX5_isPassable 33 = .ok (.iconst 1, 1) := o_4 (u1_1 hc_X5_isPassable_32 rfl) rfl
theorem dX5_isPassable_34 : decode cX5_isPassable 34 = .ok (.goto 4, 3) := o_167 (u1_2 hc_X5_isPassable_32 rfl) (s2_d (u2_d (u1_3 hc_X5_isPassable_32 rfl) (u1_4 hc_X5_isPassable_32 rfl) rfl) rfl) rfl
theorem dX5_isPassable_37 : decode cX5_isPassable 37 = .ok (.iconst 0, 1) := o_3 (u1_5 hc_X5_isPassable_32 rfl) rfl
theorem dX5_isPassable_38 : decode cX5_isPassable 38 = .ok (.ireturn, 1) := o_172 (u1_6 hc_X5_isPassable_32 rfl) rfl
theorem hc_X6_init_0 : ((bL cX6_init).drop 0).take 18 = [42, 183, 0, 3, 42, 16, 30, 188, 10, 181, 0, 9, 42, 43, 181, 0, 15, 42] := by decide +kernel
theorem dX6_init_0 : decode cX6_init 0 = .ok (.aload_n 0, 1) := o_42 (u1_0 hc_X6_init_0 rfl) rfl
theorem dX6_init_1 : decode cX6_init 1 = .ok (.invokespecial 3, 3) := o_183 (u1_1 hc_X6_init_0 rfl) (u2_d (u1_2 hc_X6_init_0 rfl) (u1_3 hc_X6_init_0 rfl) rfl) rfl
theorem dX6_init_4 : decode cX6_init 4 = .ok (.aload_n 0, 1) := o_42 (u1_4 hc_X6_init_0 rfl) rfl
theorem dX6_init_5 : decode cX6_init 5 = .ok (.bipush 30, 2) := o_16 (u1_5 hc_X6_init_0 rfl) (s1_d (u1_6 hc_X6_init_0 rfl) rfl) rfl
theorem dX6_init_7 : decode cX6_init 7 = .ok (.newarray .int, 2) := o_188_10 (u1_7 hc_X6_init_0 rfl) (u1_8 hc_X6_init_0 rfl) rfl
theorem dX6_init_9 : decode cX6_init 9 = .ok (.putfield 9, 3) := o_181 (u1_9 hc_X6_init_0 rfl) (u2_d (u1_10 hc_X6_init_0 rfl) (u1_11 hc_X6_init_0 rfl) rfl) rfl
theorem dX6_init_12 : decode cX6_init 12 = .ok (.aload_n 0, 1) := o_42 (u1_12 hc_X6_init_0 rfl) rfl
theorem dX6_init_13 : decode cX6_init 13 = .ok (.aload_n 1, 1) := o_43 (u1_13 hc_X6_init_0 rfl) rfl
theorem dX6_init_14 : decode cX6_init 14 = .ok (.putfield 15, 3) := o_181 (u1_14 hc_X6_init_0 rfl) (u2_d (u1_15 hc_X6_init_0 rfl) (u1_16 hc_X6_init_0 rfl) rfl) rfl
theorem hc_X6_init_16 : ((bL cX6_init).drop 16).take 18 = [15, 42, 180, 0, 9, 17, 0, 255, 184, 0, 19, 177] := by decide +kernel
theorem dX6_init_17 : decode cX6_init 17 = .ok (.aload_n 0, 1) := o_42 (u1_1 hc_X6_init_16 rfl) rfl
theorem dX6_init_18 : decode cX6_init 18 = .ok (.getfield 9, 3) := o_180 (u1_2 hc_X6_init_16 rfl) (u2_d (u1_3 hc_X6_init_16 rfl) (u1_4 hc_X6_init_16 rfl) rfl) rfl
theorem dX6_init_21 : decode cX6_init 21 = .ok (.sipush 255, 3) := o_17 (u1_5 hc_X6_init_16 rfl) (s2_d (u2_d (u1_6 hc_X6_init_16 rfl) (u1_7 hc_X6_init_16 rfl) rfl) rfl) rfl
theorem dX6_init_24 : decode cX6_init 24 = .ok (.invokestatic 19, 3) := o_184 (u1_8 hc_X6_init_16 rfl) (u2_d (u1_9 hc_X6_init_16 rfl) (u1_10 hc_X6_init_16 rfl) rfl) rfl
theorem dX6_init_27 : decode cX6_init 27 = .ok (.return_, 1) := o_177 (u1_11 hc_X6_init_16 rfl) rfl
theorem hc_X6_placed_0 : ((bL cX6_placed).drop 0).take 18 = [26, 17, 255, 0, 126, 28, 6, 120, 128, 27, 128, 172] := by decide +kernel
theorem dX6_placed_0 : decode cX6_placed 0 = .ok (.iload_n 0, 1) := o_26 (u1_0 hc_X6_placed_0 rfl) rfl
theorem dX6_placed_1 : decode cX6_placed 1 = .ok (.sipush (-256), 3) := o_17 (u1_1 hc_X6_placed_0 rfl) (s2_d (u2_d (u1_2 hc_X6_placed_0 rfl) (u1_3 hc_X6_placed_0 rfl) rfl) rfl) rfl
theorem dX6_placed_4 : decode cX6_placed 4 = .ok (.iand, 1) := o_126 (u1_4 hc_X6_placed_0 rfl) rfl
theorem dX6_placed_5 : decode cX6_placed 5 = .ok (.iload_n 2, 1) := o_28 (u1_5 hc_X6_placed_0 rfl) rfl
theorem dX6_placed_6 : decode cX6_placed 6 = .ok (.iconst 3, 1) := o_6 (u1_6 hc_X6_placed_0 rfl) rfl
theorem dX6_placed_7 : decode cX6_placed 7 = .ok (.ishl, 1) := o_120 (u1_7 hc_X6_placed_0 rfl) rfl
theorem dX6_placed_8 : decode cX6_placed 8 = .ok (.ior, 1) := o_128 (u1_8 hc_X6_placed_0 rfl) rfl
theorem dX6_placed_9 : decode cX6_placed 9 = .ok (.iload_n 1, 1) := o_27 (u1_9 hc_X6_placed_0 rfl) rfl
theorem dX6_placed_10 : decode cX6_placed 10 = .ok (.ior, 1) := o_128 (u1_10 hc_X6_placed_0 rfl) rfl
theorem dX6_placed_11 : decode cX6_placed 11 = .ok (.ireturn, 1) := o_172 (u1_11 hc_X6_placed_0 rfl) rfl
theorem hc_X6_flagged_0 : ((bL cX6_flagged).drop 0).take 18 = [4, 16, 8, 27, 96, 120, 62, 28, 153, 0, 9, 26, 29, 128, 167, 0, 8, 26] := by decide +kernel
theorem dX6_flagged_0 : decode cX6_flagged 0 = .ok (.iconst 1, 1) := o_4 (u1_0 hc_X6_flagged_0 rfl) rfl
theorem dX6_flagged_1 : decode cX6_flagged 1 = .ok (.bipush 8, 2) := o_16 (u1_1 hc_X6_flagged_0 rfl) (s1_d (u1_2 hc_X6_flagged_0 rfl) rfl) rfl
theorem dX6_flagged_3 : decode cX6_flagged 3 = .ok (.iload_n 1, 1) := o_27 (u1_3 hc_X6_flagged_0 rfl) rfl
theorem dX6_flagged_4 : decode cX6_flagged 4 = .ok (.iadd, 1) := o_96 (u1_4 hc_X6_flagged_0 rfl) rfl
theorem dX6_flagged_5 : decode cX6_flagged 5 = .ok (.ishl, 1) := o_120 (u1_5 hc_X6_flagged_0 rfl) rfl
theorem dX6_flagged_6 : decode cX6_flagged 6 = .ok (.istore_n 3, 1) := o_62 (u1_6 hc_X6_flagged_0 rfl) rfl
theorem dX6_flagged_7 : decode cX6_flagged 7 = .ok (.iload_n 2, 1) := o_28 (u1_7 hc_X6_flagged_0 rfl) rfl
theorem dX6_flagged_8 : decode cX6_flagged 8 = .ok (.ifCond .eq 9, 3) := o_153 (u1_8 hc_X6_flagged_0 rfl) (s2_d (u2_d (u1_9 hc_X6_flagged_0 rfl) (u1_10 hc_X6_flagged_0 rfl) rfl) rfl) rfl
theorem dX6_flagged_11 : decode cX6_flagged 11 = .ok (.iload_n 0, 1) := o_26 (u1_11 hc_X6_flagged_0 rfl) rfl
theorem dX6_flagged_12 : decode cX6_flagged 12 = .ok (.iload_n 3, 1) := o_29 (u1_12 hc_X6_flagged_0 rfl) rfl
theorem dX6_flagged_13 : decode cX6_flagged 13 = .ok (.ior, 1) := o_128 (u1_13 hc_X6_flagged_0 rfl) rfl
theorem dX6_flagged_14 : decode cX6_flagged 14 = .ok (.goto 8, 3) := o_167 (u1_14 hc_X6_flagged_0 rfl) (s2_d (u2_d (u1_15 hc_X6_flagged_0 rfl) (u1_16 hc_X6_flagged_0 rfl) rfl) rfl) rfl
theorem hc_X6_flagged_16 : ((bL cX6_flagged).drop 16).take 18 = [8, 26, 29, 2, 130, 126, 172] := by decide +kernel
theorem dX6_flagged_17 : decode cX6_flagged 17 = .ok (.iload_n 0, 1) := o_26 (u1_1 hc_X6_flagged_16 rfl) rfl
theorem dX6_flagged_18 : decode cX6_flagged 18 = .ok (.iload_n 3, 1) := o_29 (u1_2 hc_X6_flagged_16 rfl) rfl
theorem dX6_flagged_19 : decode cX6_flagged 19 = .ok (.iconst (-1), 1) := o_2 (u1_3 hc_X6_flagged_16 rfl) rfl
theorem dX6_flagged_20 : decode cX6_flagged 20 = .ok (.ixor, 1) := o_130 (u1_4 hc_X6_flagged_16 rfl) rfl
theorem dX6_flagged_21 : decode cX6_flagged 21 = .ok (.iand, 1) := o_126 (u1_5 hc_X6_flagged_16 rfl) rfl
theorem dX6_flagged_22 : decode cX6_flagged 22 = .ok (.ireturn, 1) := o_172 (u1_6 hc_X6_flagged_16 rfl) rfl
theorem hc_X6_formOf_0 : ((bL cX6_formOf).drop 0).take 18 = [42, 180, 0, 9, 27, 46, 16, 7, 126, 61, 28, 16, 7, 160, 0, 8, 16, 247] := by decide +kernel
theorem dX6_formOf_0 : decode cX6_formOf 0 = .ok (.aload_n 0, 1) := o_42 (u1_0 hc_X6_formOf_0 rfl) rfl
theorem dX6_formOf_1 : decode cX6_formOf 1 = .ok (.getfield 9, 3) := o_180 (u1_1 hc_X6_formOf_0 rfl) (u2_d (u1_2 hc_X6_formOf_0 rfl) (u1_3 hc_X6_formOf_0 rfl) rfl) rfl
theorem dX6_formOf_4 : decode cX6_formOf 4 = .ok (.iload_n 1, 1) := o_27 (u1_4 hc_X6_formOf_0 rfl) rfl
theorem dX6_formOf_5 : decode cX6_formOf 5 = .ok (.iaload, 1) := o_46 (u1_5 hc_X6_formOf_0 rfl) rfl
theorem dX6_formOf_6 : decode cX6_formOf 6 = .ok (.bipush 7, 2) := o_16 (u1_6 hc_X6_formOf_0 rfl) (s1_d (u1_7 hc_X6_formOf_0 rfl) rfl) rfl
theorem dX6_formOf_8 : decode cX6_formOf 8 = .ok (.iand, 1) := o_126 (u1_8 hc_X6_formOf_0 rfl) rfl
theorem dX6_formOf_9 : decode cX6_formOf 9 = .ok (.istore_n 2, 1) := o_61 (u1_9 hc_X6_formOf_0 rfl) rfl
theorem dX6_formOf_10 : decode cX6_formOf 10 = .ok (.iload_n 2, 1) := o_28 (u1_10 hc_X6_formOf_0 rfl) rfl
theorem dX6_formOf_11 : decode cX6_formOf 11 = .ok (.bipush 7, 2) := o_16 (u1_11 hc_X6_formOf_0 rfl) (s1_d (u1_12 hc_X6_formOf_0 rfl) rfl) rfl
theorem dX6_formOf_13 : decode cX6_formOf 13 = .ok (.if_icmp .ne 8, 3) := o_160 (u1_13 hc_X6_formOf_0 rfl) (s2_d (u2_d (u1_14 hc_X6_formOf_0 rfl) (u1_15 hc_X6_formOf_0 rfl) rfl) rfl) rfl
theorem hc_X6_formOf_16 : ((bL cX6_formOf).drop 16).take 18 = [16, 247, 167, 0, 4, 28, 172] := by decide +kernel
theorem dX6_formOf_16 : decode cX6_formOf 16 = .ok (.bipush (-9), 2) := o_16 (u1_0 hc_X6_formOf_16 rfl) (s1_d (u1_1 hc_X6_formOf_16 rfl) rfl) rfl
theorem dX6_formOf_18 : decode cX6_formOf 18 = .ok (.goto 4, 3) := o_167 (u1_2 hc_X6_formOf_16 rfl) (s2_d (u2_d (u1_3 hc_X6_formOf_16 rfl) (u1_4 hc_X6_formOf_16 rfl) rfl) rfl) rfl
theorem dX6_formOf_21 : decode cX6_formOf 21 = .ok (.iload_n 2, 1) := o_28 (u1_5 hc_X6_formOf_16 rfl) rfl
theorem dX6_formOf_22 : decode cX6_formOf 22 = .ok (.ireturn, 1) := o_172 (u1_6 hc_X6_formOf_16 rfl) rfl
theorem hc_X6_holderOf_0 : ((bL cX6_holderOf).drop 0).take 18 = [42, 180, 0, 9, 27, 46, 6, 122, 16, 31, 126, 61, 28, 16, 31, 160, 0, 8] := by decide +kernel
theorem dX6_holderOf_0 : decode cX6_holderOf 0 = .ok (.aload_n 0, 1) := o_42 (u1_0 hc_X6_holderOf_0 rfl) rfl
theorem dX6_holderOf_1 : decode cX6_holderOf 1 = .ok (.getfield 9, 3) := o_180 (u1_1 hc_X6_holderOf_0 rfl) (u2_d (u1_2 hc_X6_holderOf_0 rfl) (u1_3 hc_X6_holderOf_0 rfl) rfl) rfl
theorem dX6_holderOf_4 : decode cX6_holderOf 4 = .ok (.iload_n 1, 1) := o_27 (u1_4 hc_X6_holderOf_0 rfl) rfl
theorem dX6_holderOf_5 : decode cX6_holderOf 5 = .ok (.iaload, 1) := o_46 (u1_5 hc_X6_holderOf_0 rfl) rfl
theorem dX6_holderOf_6 : decode cX6_holderOf 6 = .ok (.iconst 3, 1) := o_6 (u1_6 hc_X6_holderOf_0 rfl) rfl
theorem dX6_holderOf_7 : decode cX6_holderOf 7 = .ok (.ishr, 1) := o_122 (u1_7 hc_X6_holderOf_0 rfl) rfl
theorem dX6_holderOf_8 : decode cX6_holderOf 8 = .ok (.bipush 31, 2) := o_16 (u1_8 hc_X6_holderOf_0 rfl) (s1_d (u1_9 hc_X6_holderOf_0 rfl) rfl) rfl
theorem dX6_holderOf_10 : decode cX6_holderOf 10 = .ok (.iand, 1) := o_126 (u1_10 hc_X6_holderOf_0 rfl) rfl
theorem dX6_holderOf_11 : decode cX6_holderOf 11 = .ok (.istore_n 2, 1) := o_61 (u1_11 hc_X6_holderOf_0 rfl) rfl
theorem dX6_holderOf_12 : decode cX6_holderOf 12 = .ok (.iload_n 2, 1) := o_28 (u1_12 hc_X6_holderOf_0 rfl) rfl
theorem dX6_holderOf_13 : decode cX6_holderOf 13 = .ok (.bipush 31, 2) := o_16 (u1_13 hc_X6_holderOf_0 rfl) (s1_d (u1_14 hc_X6_holderOf_0 rfl) rfl) rfl
theorem dX6_holderOf_15 : decode cX6_holderOf 15 = .ok (.if_icmp .ne 8, 3) := o_160 (u1_15 hc_X6_holderOf_0 rfl) (s2_d (u2_d (u1_16 hc_X6_holderOf_0 rfl) (u1_17 hc_X6_holderOf_0 rfl) rfl) rfl) rfl
theorem hc_X6_holderOf_16 : ((bL cX6_holderOf).drop 16).take 18 = [0, 8, 16, 247, 167, 0, 4, 28, 172] := by decide +kernel
theorem dX6_holderOf_18 : decode cX6_holderOf 18 = .ok (.bipush (-9), 2) := o_16 (u1_2 hc_X6_holderOf_16 rfl) (s1_d (u1_3 hc_X6_holderOf_16 rfl) rfl) rfl
theorem dX6_holderOf_20 : decode cX6_holderOf 20 = .ok (.goto 4, 3) := o_167 (u1_4 hc_X6_holderOf_16 rfl) (s2_d (u2_d (u1_5 hc_X6_holderOf_16 rfl) (u1_6 hc_X6_holderOf_16 rfl) rfl) rfl) rfl
theorem dX6_holderOf_23 : decode cX6_holderOf 23 = .ok (.iload_n 2, 1) := o_28 (u1_7 hc_X6_holderOf_16 rfl) rfl
theorem dX6_holderOf_24 : decode cX6_holderOf 24 = .ok (.ireturn, 1) := o_172 (u1_8 hc_X6_holderOf_16 rfl) rfl
theorem hc_X6_lies_0 : ((bL cX6_lies).drop 0).take 18 = [42, 180, 0, 9, 27, 46, 17, 0, 255, 126, 29, 6, 120, 28, 128, 160, 0, 7] := by decide +kernel
theorem dX6_lies_0 : decode cX6_lies 0 = .ok (.aload_n 0, 1) := o_42 (u1_0 hc_X6_lies_0 rfl) rfl
theorem dX6_lies_1 : decode cX6_lies 1 = .ok (.getfield 9, 3) := o_180 (u1_1 hc_X6_lies_0 rfl) (u2_d (u1_2 hc_X6_lies_0 rfl) (u1_3 hc_X6_lies_0 rfl) rfl) rfl
theorem dX6_lies_4 : decode cX6_lies 4 = .ok (.iload_n 1, 1) := o_27 (u1_4 hc_X6_lies_0 rfl) rfl
theorem dX6_lies_5 : decode cX6_lies 5 = .ok (.iaload, 1) := o_46 (u1_5 hc_X6_lies_0 rfl) rfl
theorem dX6_lies_6 : decode cX6_lies 6 = .ok (.sipush 255, 3) := o_17 (u1_6 hc_X6_lies_0 rfl) (s2_d (u2_d (u1_7 hc_X6_lies_0 rfl) (u1_8 hc_X6_lies_0 rfl) rfl) rfl) rfl
theorem dX6_lies_9 : decode cX6_lies 9 = .ok (.iand, 1) := o_126 (u1_9 hc_X6_lies_0 rfl) rfl
theorem dX6_lies_10 : decode cX6_lies 10 = .ok (.iload_n 3, 1) := o_29 (u1_10 hc_X6_lies_0 rfl) rfl
theorem dX6_lies_11 : decode cX6_lies 11 = .ok (.iconst 3, 1) := o_6 (u1_11 hc_X6_lies_0 rfl) rfl
theorem dX6_lies_12 : decode cX6_lies 12 = .ok (.ishl, 1) := o_120 (u1_12 hc_X6_lies_0 rfl) rfl
theorem dX6_lies_13 : decode cX6_lies 13 = .ok (.iload_n 2, 1) := o_28 (u1_13 hc_X6_lies_0 rfl) rfl
theorem dX6_lies_14 : decode cX6_lies 14 = .ok (.ior, 1) := o_128 (u1_14 hc_X6_lies_0 rfl) rfl
theorem dX6_lies_15 : decode cX6_lies 15 = .ok (.if_icmp .ne 7, 3) := o_160 (u1_15 hc_X6_lies_0 rfl) (s2_d (u2_d (u1_16 hc_X6_lies_0 rfl) (u1_17 hc_X6_lies_0 rfl) rfl) rfl) rfl
theorem hc_X6_lies_16 : ((bL cX6_lies).drop 16).take 18 = [0, 7, 4, 167, 0, 4, 3, 172] := by decide +kernel
theorem dX6_lies_18 : decode cX6_lies 18 = .ok (.iconst 1, 1) := o_4 (u1_2 hc_X6_lies_16 rfl) rfl
theorem dX6_lies_19 : decode cX6_lies 19 = .ok (.goto 4, 3) := o_167 (u1_3 hc_X6_lies_16 rfl) (s2_d (u2_d (u1_4 hc_X6_lies_16 rfl) (u1_5 hc_X6_lies_16 rfl) rfl) rfl) rfl
theorem dX6_lies_22 : decode cX6_lies 22 = .ok (.iconst 0, 1) := o_3 (u1_6 hc_X6_lies_16 rfl) rfl
theorem dX6_lies_23 : decode cX6_lies 23 = .ok (.ireturn, 1) := o_172 (u1_7 hc_X6_lies_16 rfl) rfl
theorem hc_X6_has_0 : ((bL cX6_has).drop 0).take 18 = [42, 180, 0, 9, 27, 46, 16, 8, 28, 96, 122, 4, 126, 4, 160, 0, 7, 4] := by decide +kernel
theorem dX6_has_0 : decode cX6_has 0 = .ok (.aload_n 0, 1) := o_42 (u1_0 hc_X6_has_0 rfl) rfl
theorem dX6_has_1 : decode cX6_has 1 = .ok (.getfield 9, 3) := o_180 (u1_1 hc_X6_has_0 rfl) (u2_d (u1_2 hc_X6_has_0 rfl) (u1_3 hc_X6_has_0 rfl) rfl) rfl
theorem dX6_has_4 : decode cX6_has 4 = .ok (.iload_n 1, 1) := o_27 (u1_4 hc_X6_has_0 rfl) rfl
theorem dX6_has_5 : decode cX6_has 5 = .ok (.iaload, 1) := o_46 (u1_5 hc_X6_has_0 rfl) rfl
theorem dX6_has_6 : decode cX6_has 6 = .ok (.bipush 8, 2) := o_16 (u1_6 hc_X6_has_0 rfl) (s1_d (u1_7 hc_X6_has_0 rfl) rfl) rfl
theorem dX6_has_8 : decode cX6_has 8 = .ok (.iload_n 2, 1) := o_28 (u1_8 hc_X6_has_0 rfl) rfl
theorem dX6_has_9 : decode cX6_has 9 = .ok (.iadd, 1) := o_96 (u1_9 hc_X6_has_0 rfl) rfl
theorem dX6_has_10 : decode cX6_has 10 = .ok (.ishr, 1) := o_122 (u1_10 hc_X6_has_0 rfl) rfl
theorem dX6_has_11 : decode cX6_has 11 = .ok (.iconst 1, 1) := o_4 (u1_11 hc_X6_has_0 rfl) rfl
theorem dX6_has_12 : decode cX6_has 12 = .ok (.iand, 1) := o_126 (u1_12 hc_X6_has_0 rfl) rfl
theorem dX6_has_13 : decode cX6_has 13 = .ok (.iconst 1, 1) := o_4 (u1_13 hc_X6_has_0 rfl) rfl
theorem dX6_has_14 : decode cX6_has 14 = .ok (.if_icmp .ne 7, 3) := o_160 (u1_14 hc_X6_has_0 rfl) (s2_d (u2_d (u1_15 hc_X6_has_0 rfl) (u1_16 hc_X6_has_0 rfl) rfl) rfl) rfl
theorem hc_X6_has_16 : ((bL cX6_has).drop 16).take 18 = [7, 4, 167, 0, 4, 3, 172] := by decide +kernel
theorem dX6_has_17 : decode cX6_has 17 = .ok (.iconst 1, 1) := o_4 (u1_1 hc_X6_has_16 rfl) rfl
theorem dX6_has_18 : decode cX6_has 18 = .ok (.goto 4, 3) := o_167 (u1_2 hc_X6_has_16 rfl) (s2_d (u2_d (u1_3 hc_X6_has_16 rfl) (u1_4 hc_X6_has_16 rfl) rfl) rfl) rfl
theorem dX6_has_21 : decode cX6_has 21 = .ok (.iconst 0, 1) := o_3 (u1_5 hc_X6_has_16 rfl) rfl
theorem dX6_has_22 : decode cX6_has 22 = .ok (.ireturn, 1) := o_172 (u1_6 hc_X6_has_16 rfl) rfl
theorem hc_X6_isUp_0 : ((bL cX6_isUp).drop 0).take 18 = [42, 28, 182, 0, 25, 62, 3, 54, 4, 21, 4, 16, 30, 162, 0, 28, 29, 16] := by decide +kernel
theorem dX6_isUp_0 : decode cX6_isUp 0 = .ok (.aload_n 0, 1) := o_42 (u1_0 hc_X6_isUp_0 rfl) rfl
theorem dX6_isUp_1 : decode cX6_isUp 1 = .ok (.iload_n 2, 1) := o_28 (u1_1 hc_X6_isUp_0 rfl) rfl
theorem dX6_isUp_2 : decode cX6_isUp 2 = .ok (.invokevirtual 25, 3) := o_182 (u1_2 hc_X6_isUp_0 rfl) (u2_d (u1_3 hc_X6_isUp_0 rfl) (u1_4 hc_X6_isUp_0 rfl) rfl) rfl
theorem dX6_isUp_5 : decode cX6_isUp 5 = .ok (.istore_n 3, 1) := o_62 (u1_5 hc_X6_isUp_0 rfl) rfl
theorem dX6_isUp_6 : decode cX6_isUp 6 = .ok (.iconst 0, 1) := o_3 (u1_6 hc_X6_isUp_0 rfl) rfl
theorem dX6_isUp_7 : decode cX6_isUp 7 = .ok (.istore 4, 2) := o_54 (u1_7 hc_X6_isUp_0 rfl) (u1_8 hc_X6_isUp_0 rfl) rfl
theorem dX6_isUp_9 : decode cX6_isUp 9 = .ok (.iload 4, 2) := o_21 (u1_9 hc_X6_isUp_0 rfl) (u1_10 hc_X6_isUp_0 rfl) rfl
theorem dX6_isUp_11 : decode cX6_isUp 11 = .ok (.bipush 30, 2) := o_16 (u1_11 hc_X6_isUp_0 rfl) (s1_d (u1_12 hc_X6_isUp_0 rfl) rfl) rfl
theorem dX6_isUp_13 : decode cX6_isUp 13 = .ok (.if_icmp .ge 28, 3) := o_162 (u1_13 hc_X6_isUp_0 rfl) (s2_d (u2_d (u1_14 hc_X6_isUp_0 rfl) (u1_15 hc_X6_isUp_0 rfl) rfl) rfl) rfl
theorem hc_X6_isUp_16 : ((bL cX6_isUp).drop 16).take 18 = [29, 16, 247, 159, 0, 22, 29, 27, 160, 0, 5, 4, 172, 42, 29, 182, 0, 25] := by decide +kernel
theorem dX6_isUp_16 : decode cX6_isUp 16 = .ok (.iload_n 3, 1) := o_29 (u1_0 hc_X6_isUp_16 rfl) rfl
theorem dX6_isUp_17 : decode cX6_isUp 17 = .ok (.bipush (-9), 2) := o_16 (u1_1 hc_X6_isUp_16 rfl) (s1_d (u1_2 hc_X6_isUp_16 rfl) rfl) rfl
theorem dX6_isUp_19 : decode cX6_isUp 19 = .ok (.if_icmp .eq 22, 3) := o_159 (u1_3 hc_X6_isUp_16 rfl) (s2_d (u2_d (u1_4 hc_X6_isUp_16 rfl) (u1_5 hc_X6_isUp_16 rfl) rfl) rfl) rfl
theorem dX6_isUp_22 : decode cX6_isUp 22 = .ok (.iload_n 3, 1) := o_29 (u1_6 hc_X6_isUp_16 rfl) rfl
theorem dX6_isUp_23 : decode cX6_isUp 23 = .ok (.iload_n 1, 1) := o_27 (u1_7 hc_X6_isUp_16 rfl) rfl
theorem dX6_isUp_24 : decode cX6_isUp 24 = .ok (.if_icmp .ne 5, 3) := o_160 (u1_8 hc_X6_isUp_16 rfl) (s2_d (u2_d (u1_9 hc_X6_isUp_16 rfl) (u1_10 hc_X6_isUp_16 rfl) rfl) rfl) rfl
theorem dX6_isUp_27 : decode cX6_isUp 27 = .ok (.iconst 1, 1) := o_4 (u1_11 hc_X6_isUp_16 rfl) rfl
theorem dX6_isUp_28 : decode cX6_isUp 28 = .ok (.ireturn, 1) := o_172 (u1_12 hc_X6_isUp_16 rfl) rfl
theorem dX6_isUp_29 : decode cX6_isUp 29 = .ok (.aload_n 0, 1) := o_42 (u1_13 hc_X6_isUp_16 rfl) rfl
theorem dX6_isUp_30 : decode cX6_isUp 30 = .ok (.iload_n 3, 1) := o_29 (u1_14 hc_X6_isUp_16 rfl) rfl
theorem dX6_isUp_31 : decode cX6_isUp 31 = .ok (.invokevirtual 25, 3) := o_182 (u1_15 hc_X6_isUp_16 rfl) (u2_d (u1_16 hc_X6_isUp_16 rfl) (u1_17 hc_X6_isUp_16 rfl) rfl) rfl
theorem hc_X6_isUp_32 : ((bL cX6_isUp).drop 32).take 18 = [0, 25, 62, 132, 4, 1, 167, 255, 227, 3, 172] := by decide +kernel
theorem dX6_isUp_34 : decode cX6_isUp 34 = .ok (.istore_n 3, 1) := o_62 (u1_2 hc_X6_isUp_32 rfl) rfl
theorem dX6_isUp_35 : decode cX6_isUp 35 = .ok (.iinc 4 1, 3) := o_132 (u1_3 hc_X6_isUp_32 rfl) (u1_4 hc_X6_isUp_32 rfl) (s1_d (u1_5 hc_X6_isUp_32 rfl) rfl) rfl
theorem dX6_isUp_38 : decode cX6_isUp 38 = .ok (.goto (-29), 3) := o_167 (u1_6 hc_X6_isUp_32 rfl) (s2_d (u2_d (u1_7 hc_X6_isUp_32 rfl) (u1_8 hc_X6_isUp_32 rfl) rfl) rfl) rfl
theorem dX6_isUp_41 : decode cX6_isUp 41 = .ok (.iconst 0, 1) := o_3 (u1_9 hc_X6_isUp_32 rfl) rfl
theorem dX6_isUp_42 : decode cX6_isUp 42 = .ok (.ireturn, 1) := o_172 (u1_10 hc_X6_isUp_32 rfl) rfl
theorem hc_X6_roomOf_0 : ((bL cX6_roomOf).drop 0).take 18 = [27, 61, 3, 62, 29, 16, 30, 163, 0, 34, 28, 16, 247, 159, 0, 28, 42, 180] := by decide +kernel
theorem dX6_roomOf_0 : decode cX6_roomOf 0 = .ok (.iload_n 1, 1) := o_27 (u1_0 hc_X6_roomOf_0 rfl) rfl
theorem dX6_roomOf_1 : decode cX6_roomOf 1 = .ok (.istore_n 2, 1) := o_61 (u1_1 hc_X6_roomOf_0 rfl) rfl
theorem dX6_roomOf_2 : decode cX6_roomOf 2 = .ok (.iconst 0, 1) := o_3 (u1_2 hc_X6_roomOf_0 rfl) rfl
theorem dX6_roomOf_3 : decode cX6_roomOf 3 = .ok (.istore_n 3, 1) := o_62 (u1_3 hc_X6_roomOf_0 rfl) rfl
theorem dX6_roomOf_4 : decode cX6_roomOf 4 = .ok (.iload_n 3, 1) := o_29 (u1_4 hc_X6_roomOf_0 rfl) rfl
theorem dX6_roomOf_5 : decode cX6_roomOf 5 = .ok (.bipush 30, 2) := o_16 (u1_5 hc_X6_roomOf_0 rfl) (s1_d (u1_6 hc_X6_roomOf_0 rfl) rfl) rfl
theorem dX6_roomOf_7 : decode cX6_roomOf 7 = .ok (.if_icmp .gt 34, 3) := o_163 (u1_7 hc_X6_roomOf_0 rfl) (s2_d (u2_d (u1_8 hc_X6_roomOf_0 rfl) (u1_9 hc_X6_roomOf_0 rfl) rfl) rfl) rfl
theorem dX6_roomOf_10 : decode cX6_roomOf 10 = .ok (.iload_n 2, 1) := o_28 (u1_10 hc_X6_roomOf_0 rfl) rfl
theorem dX6_roomOf_11 : decode cX6_roomOf 11 = .ok (.bipush (-9), 2) := o_16 (u1_11 hc_X6_roomOf_0 rfl) (s1_d (u1_12 hc_X6_roomOf_0 rfl) rfl) rfl
theorem dX6_roomOf_13 : decode cX6_roomOf 13 = .ok (.if_icmp .eq 28, 3) := o_159 (u1_13 hc_X6_roomOf_0 rfl) (s2_d (u2_d (u1_14 hc_X6_roomOf_0 rfl) (u1_15 hc_X6_roomOf_0 rfl) rfl) rfl) rfl
theorem hc_X6_roomOf_16 : ((bL cX6_roomOf).drop 16).take 18 = [42, 180, 0, 15, 28, 182, 0, 29, 154, 0, 5, 28, 172, 42, 28, 182, 0, 25] := by decide +kernel
theorem dX6_roomOf_16 : decode cX6_roomOf 16 = .ok (.aload_n 0, 1) := o_42 (u1_0 hc_X6_roomOf_16 rfl) rfl
theorem dX6_roomOf_17 : decode cX6_roomOf 17 = .ok (.getfield 15, 3) := o_180 (u1_1 hc_X6_roomOf_16 rfl) (u2_d (u1_2 hc_X6_roomOf_16 rfl) (u1_3 hc_X6_roomOf_16 rfl) rfl) rfl
theorem dX6_roomOf_20 : decode cX6_roomOf 20 = .ok (.iload_n 2, 1) := o_28 (u1_4 hc_X6_roomOf_16 rfl) rfl
theorem dX6_roomOf_21 : decode cX6_roomOf 21 = .ok (.invokevirtual 29, 3) := o_182 (u1_5 hc_X6_roomOf_16 rfl) (u2_d (u1_6 hc_X6_roomOf_16 rfl) (u1_7 hc_X6_roomOf_16 rfl) rfl) rfl
theorem dX6_roomOf_24 : decode cX6_roomOf 24 = .ok (.ifCond .ne 5, 3) := o_154 (u1_8 hc_X6_roomOf_16 rfl) (s2_d (u2_d (u1_9 hc_X6_roomOf_16 rfl) (u1_10 hc_X6_roomOf_16 rfl) rfl) rfl) rfl
theorem dX6_roomOf_27 : decode cX6_roomOf 27 = .ok (.iload_n 2, 1) := o_28 (u1_11 hc_X6_roomOf_16 rfl) rfl
theorem dX6_roomOf_28 : decode cX6_roomOf 28 = .ok (.ireturn, 1) := o_172 (u1_12 hc_X6_roomOf_16 rfl) rfl
theorem dX6_roomOf_29 : decode cX6_roomOf 29 = .ok (.aload_n 0, 1) := o_42 (u1_13 hc_X6_roomOf_16 rfl) rfl
theorem dX6_roomOf_30 : decode cX6_roomOf 30 = .ok (.iload_n 2, 1) := o_28 (u1_14 hc_X6_roomOf_16 rfl) rfl
theorem dX6_roomOf_31 : decode cX6_roomOf 31 = .ok (.invokevirtual 25, 3) := o_182 (u1_15 hc_X6_roomOf_16 rfl) (u2_d (u1_16 hc_X6_roomOf_16 rfl) (u1_17 hc_X6_roomOf_16 rfl) rfl) rfl
theorem hc_X6_roomOf_32 : ((bL cX6_roomOf).drop 32).take 18 = [0, 25, 61, 132, 3, 1, 167, 255, 222, 16, 247, 172] := by decide +kernel
theorem dX6_roomOf_34 : decode cX6_roomOf 34 = .ok (.istore_n 2, 1) := o_61 (u1_2 hc_X6_roomOf_32 rfl) rfl
theorem dX6_roomOf_35 : decode cX6_roomOf 35 = .ok (.iinc 3 1, 3) := o_132 (u1_3 hc_X6_roomOf_32 rfl) (u1_4 hc_X6_roomOf_32 rfl) (s1_d (u1_5 hc_X6_roomOf_32 rfl) rfl) rfl
theorem dX6_roomOf_38 : decode cX6_roomOf 38 = .ok (.goto (-34), 3) := o_167 (u1_6 hc_X6_roomOf_32 rfl) (s2_d (u2_d (u1_7 hc_X6_roomOf_32 rfl) (u1_8 hc_X6_roomOf_32 rfl) rfl) rfl) rfl
theorem dX6_roomOf_41 : decode cX6_roomOf 41 = .ok (.bipush (-9), 2) := o_16 (u1_9 hc_X6_roomOf_32 rfl) (s1_d (u1_10 hc_X6_roomOf_32 rfl) rfl) rfl
theorem dX6_roomOf_43 : decode cX6_roomOf 43 = .ok (.ireturn, 1) := o_172 (u1_11 hc_X6_roomOf_32 rfl) rfl
theorem hc_X6_countOf_0 : ((bL cX6_countOf).drop 0).take 18 = [3, 62, 3, 54, 4, 21, 4, 42, 180, 0, 15, 180, 0, 34, 162, 0, 23, 42] := by decide +kernel
theorem dX6_countOf_0 : decode cX6_countOf 0 = .ok (.iconst 0, 1) := o_3 (u1_0 hc_X6_countOf_0 rfl) rfl
theorem dX6_countOf_1 : decode cX6_countOf 1 = .ok (.istore_n 3, 1) := o_62 (u1_1 hc_X6_countOf_0 rfl) rfl
theorem dX6_countOf_2 : decode cX6_countOf 2 = .ok (.iconst 0, 1) := o_3 (u1_2 hc_X6_countOf_0 rfl) rfl
theorem dX6_countOf_3 : decode cX6_countOf 3 = .ok (.istore 4, 2) := o_54 (u1_3 hc_X6_countOf_0 rfl) (u1_4 hc_X6_countOf_0 rfl) rfl
theorem dX6_countOf_5 : decode cX6_countOf 5 = .ok (.iload 4, 2) := o_21 (u1_5 hc_X6_countOf_0 rfl) (u1_6 hc_X6_countOf_0 rfl) rfl
theorem dX6_countOf_7 : decode cX6_countOf 7 = .ok (.aload_n 0, 1) := o_42 (u1_7 hc_X6_countOf_0 rfl) rfl
theorem dX6_countOf_8 : decode cX6_countOf 8 = .ok (.getfield 15, 3) := o_180 (u1_8 hc_X6_countOf_0 rfl) (u2_d (u1_9 hc_X6_countOf_0 rfl) (u1_10 hc_X6_countOf_0 rfl) rfl) rfl
theorem dX6_countOf_11 : decode cX6_countOf 11 = .ok (.getfield 34, 3) := o_180 (u1_11 hc_X6_countOf_0 rfl) (u2_d (u1_12 hc_X6_countOf_0 rfl) (u1_13 hc_X6_countOf_0 rfl) rfl) rfl
theorem dX6_countOf_14 : decode cX6_countOf 14 = .ok (.if_icmp .ge 23, 3) := o_162 (u1_14 hc_X6_countOf_0 rfl) (s2_d (u2_d (u1_15 hc_X6_countOf_0 rfl) (u1_16 hc_X6_countOf_0 rfl) rfl) rfl) rfl
theorem hc_X6_countOf_16 : ((bL cX6_countOf).drop 16).take 18 = [23, 42, 21, 4, 27, 28, 182, 0, 38, 153, 0, 6, 132, 3, 1, 132, 4, 1] := by decide +kernel
theorem dX6_countOf_17 : decode cX6_countOf 17 = .ok (.aload_n 0, 1) := o_42 (u1_1 hc_X6_countOf_16 rfl) rfl
theorem dX6_countOf_18 : decode cX6_countOf 18 = .ok (.iload 4, 2) := o_21 (u1_2 hc_X6_countOf_16 rfl) (u1_3 hc_X6_countOf_16 rfl) rfl
theorem dX6_countOf_20 : decode cX6_countOf 20 = .ok (.iload_n 1, 1) := o_27 (u1_4 hc_X6_countOf_16 rfl) rfl
theorem dX6_countOf_21 : decode cX6_countOf 21 = .ok (.iload_n 2, 1) := o_28 (u1_5 hc_X6_countOf_16 rfl) rfl
theorem dX6_countOf_22 : decode cX6_countOf 22 = .ok (.invokevirtual 38, 3) := o_182 (u1_6 hc_X6_countOf_16 rfl) (u2_d (u1_7 hc_X6_countOf_16 rfl) (u1_8 hc_X6_countOf_16 rfl) rfl) rfl
theorem dX6_countOf_25 : decode cX6_countOf 25 = .ok (.ifCond .eq 6, 3) := o_153 (u1_9 hc_X6_countOf_16 rfl) (s2_d (u2_d (u1_10 hc_X6_countOf_16 rfl) (u1_11 hc_X6_countOf_16 rfl) rfl) rfl) rfl
theorem dX6_countOf_28 : decode cX6_countOf 28 = .ok (.iinc 3 1, 3) := o_132 (u1_12 hc_X6_countOf_16 rfl) (u1_13 hc_X6_countOf_16 rfl) (s1_d (u1_14 hc_X6_countOf_16 rfl) rfl) rfl
theorem dX6_countOf_31 : decode cX6_countOf 31 = .ok (.iinc 4 1, 3) := o_132 (u1_15 hc_X6_countOf_16 rfl) (u1_16 hc_X6_countOf_16 rfl) (s1_d (u1_17 hc_X6_countOf_16 rfl) rfl) rfl
theorem hc_X6_countOf_32 : ((bL cX6_countOf).drop 32).take 18 = [4, 1, 167, 255, 227, 29, 172] := by decide +kernel
theorem dX6_countOf_34 : decode cX6_countOf 34 = .ok (.goto (-29), 3) := o_167 (u1_2 hc_X6_countOf_32 rfl) (s2_d (u2_d (u1_3 hc_X6_countOf_32 rfl) (u1_4 hc_X6_countOf_32 rfl) rfl) rfl) rfl
theorem dX6_countOf_37 : decode cX6_countOf 37 = .ok (.iload_n 3, 1) := o_29 (u1_5 hc_X6_countOf_32 rfl) rfl
theorem dX6_countOf_38 : decode cX6_countOf 38 = .ok (.ireturn, 1) := o_172 (u1_6 hc_X6_countOf_32 rfl) rfl
theorem hc_X7_init_0 : ((bL cX7_init).drop 0).take 18 = [42, 183, 0, 3, 42, 17, 35, 40, 188, 10, 181, 0, 9, 42, 17, 1, 44, 188] := by decide +kernel
theorem dX7_init_0 : decode cX7_init 0 = .ok (.aload_n 0, 1) := o_42 (u1_0 hc_X7_init_0 rfl) rfl
theorem dX7_init_1 : decode cX7_init 1 = .ok (.invokespecial 3, 3) := o_183 (u1_1 hc_X7_init_0 rfl) (u2_d (u1_2 hc_X7_init_0 rfl) (u1_3 hc_X7_init_0 rfl) rfl) rfl
theorem dX7_init_4 : decode cX7_init 4 = .ok (.aload_n 0, 1) := o_42 (u1_4 hc_X7_init_0 rfl) rfl
theorem dX7_init_5 : decode cX7_init 5 = .ok (.sipush 9000, 3) := o_17 (u1_5 hc_X7_init_0 rfl) (s2_d (u2_d (u1_6 hc_X7_init_0 rfl) (u1_7 hc_X7_init_0 rfl) rfl) rfl) rfl
theorem dX7_init_8 : decode cX7_init 8 = .ok (.newarray .int, 2) := o_188_10 (u1_8 hc_X7_init_0 rfl) (u1_9 hc_X7_init_0 rfl) rfl
theorem dX7_init_10 : decode cX7_init 10 = .ok (.putfield 9, 3) := o_181 (u1_10 hc_X7_init_0 rfl) (u2_d (u1_11 hc_X7_init_0 rfl) (u1_12 hc_X7_init_0 rfl) rfl) rfl
theorem dX7_init_13 : decode cX7_init 13 = .ok (.aload_n 0, 1) := o_42 (u1_13 hc_X7_init_0 rfl) rfl
theorem dX7_init_14 : decode cX7_init 14 = .ok (.sipush 300, 3) := o_17 (u1_14 hc_X7_init_0 rfl) (s2_d (u2_d (u1_15 hc_X7_init_0 rfl) (u1_16 hc_X7_init_0 rfl) rfl) rfl) rfl
theorem hc_X7_init_16 : ((bL cX7_init).drop 16).take 18 = [44, 188, 10, 181, 0, 15, 42, 17, 4, 0, 188, 10, 181, 0, 18, 42, 17, 1] := by decide +kernel
theorem dX7_init_17 : decode cX7_init 17 = .ok (.newarray .int, 2) := o_188_10 (u1_1 hc_X7_init_16 rfl) (u1_2 hc_X7_init_16 rfl) rfl
theorem dX7_init_19 : decode cX7_init 19 = .ok (.putfield 15, 3) := o_181 (u1_3 hc_X7_init_16 rfl) (u2_d (u1_4 hc_X7_init_16 rfl) (u1_5 hc_X7_init_16 rfl) rfl) rfl
theorem dX7_init_22 : decode cX7_init 22 = .ok (.aload_n 0, 1) := o_42 (u1_6 hc_X7_init_16 rfl) rfl
theorem dX7_init_23 : decode cX7_init 23 = .ok (.sipush 1024, 3) := o_17 (u1_7 hc_X7_init_16 rfl) (s2_d (u2_d (u1_8 hc_X7_init_16 rfl) (u1_9 hc_X7_init_16 rfl) rfl) rfl) rfl
theorem dX7_init_26 : decode cX7_init 26 = .ok (.newarray .int, 2) := o_188_10 (u1_10 hc_X7_init_16 rfl) (u1_11 hc_X7_init_16 rfl) rfl
theorem dX7_init_28 : decode cX7_init 28 = .ok (.putfield 18, 3) := o_181 (u1_12 hc_X7_init_16 rfl) (u2_d (u1_13 hc_X7_init_16 rfl) (u1_14 hc_X7_init_16 rfl) rfl) rfl
theorem dX7_init_31 : decode cX7_init 31 = .ok (.aload_n 0, 1) := o_42 (u1_15 hc_X7_init_16 rfl) rfl
theorem hc_X7_init_32 : ((bL cX7_init).drop 32).take 18 = [17, 1, 44, 188, 10, 181, 0, 21, 42, 17, 1, 44, 188, 10, 181, 0, 24, 42] := by decide +kernel
theorem dX7_init_32 : decode cX7_init 32 = .ok (.sipush 300, 3) := o_17 (u1_0 hc_X7_init_32 rfl) (s2_d (u2_d (u1_1 hc_X7_init_32 rfl) (u1_2 hc_X7_init_32 rfl) rfl) rfl) rfl
theorem dX7_init_35 : decode cX7_init 35 = .ok (.newarray .int, 2) := o_188_10 (u1_3 hc_X7_init_32 rfl) (u1_4 hc_X7_init_32 rfl) rfl
theorem dX7_init_37 : decode cX7_init 37 = .ok (.putfield 21, 3) := o_181 (u1_5 hc_X7_init_32 rfl) (u2_d (u1_6 hc_X7_init_32 rfl) (u1_7 hc_X7_init_32 rfl) rfl) rfl
theorem dX7_init_40 : decode cX7_init 40 = .ok (.aload_n 0, 1) := o_42 (u1_8 hc_X7_init_32 rfl) rfl
theorem dX7_init_41 : decode cX7_init 41 = .ok (.sipush 300, 3) := o_17 (u1_9 hc_X7_init_32 rfl) (s2_d (u2_d (u1_10 hc_X7_init_32 rfl) (u1_11 hc_X7_init_32 rfl) rfl) rfl) rfl
theorem dX7_init_44 : decode cX7_init 44 = .ok (.newarray .int, 2) := o_188_10 (u1_12 hc_X7_init_32 rfl) (u1_13 hc_X7_init_32 rfl) rfl
theorem dX7_init_46 : decode cX7_init 46 = .ok (.putfield 24, 3) := o_181 (u1_14 hc_X7_init_32 rfl) (u2_d (u1_15 hc_X7_init_32 rfl) (u1_16 hc_X7_init_32 rfl) rfl) rfl
theorem hc_X7_init_48 : ((bL cX7_init).drop 48).take 18 = [24, 42, 17, 1, 44, 188, 10, 181, 0, 27, 42, 43, 181, 0, 30, 42, 187, 0] := by decide +kernel
theorem dX7_init_49 : decode cX7_init 49 = .ok (.aload_n 0, 1) := o_42 (u1_1 hc_X7_init_48 rfl) rfl
theorem dX7_init_50 : decode cX7_init 50 = .ok (.sipush 300, 3) := o_17 (u1_2 hc_X7_init_48 rfl) (s2_d (u2_d (u1_3 hc_X7_init_48 rfl) (u1_4 hc_X7_init_48 rfl) rfl) rfl) rfl
theorem dX7_init_53 : decode cX7_init 53 = .ok (.newarray .int, 2) := o_188_10 (u1_5 hc_X7_init_48 rfl) (u1_6 hc_X7_init_48 rfl) rfl
theorem dX7_init_55 : decode cX7_init 55 = .ok (.putfield 27, 3) := o_181 (u1_7 hc_X7_init_48 rfl) (u2_d (u1_8 hc_X7_init_48 rfl) (u1_9 hc_X7_init_48 rfl) rfl) rfl
theorem dX7_init_58 : decode cX7_init 58 = .ok (.aload_n 0, 1) := o_42 (u1_10 hc_X7_init_48 rfl) rfl
theorem dX7_init_59 : decode cX7_init 59 = .ok (.aload_n 1, 1) := o_43 (u1_11 hc_X7_init_48 rfl) rfl
theorem dX7_init_60 : decode cX7_init 60 = .ok (.putfield 30, 3) := o_181 (u1_12 hc_X7_init_48 rfl) (u2_d (u1_13 hc_X7_init_48 rfl) (u1_14 hc_X7_init_48 rfl) rfl) rfl
theorem dX7_init_63 : decode cX7_init 63 = .ok (.aload_n 0, 1) := o_42 (u1_15 hc_X7_init_48 rfl) rfl
theorem hc_X7_init_64 : ((bL cX7_init).drop 64).take 18 = [187, 0, 34, 89, 43, 183, 0, 36, 181, 0, 39, 42, 187, 0, 43, 89, 43, 45] := by decide +kernel
theorem dX7_init_64 : decode cX7_init 64 = .ok (.new 34, 3) := o_187 (u1_0 hc_X7_init_64 rfl) (u2_d (u1_1 hc_X7_init_64 rfl) (u1_2 hc_X7_init_64 rfl) rfl) rfl
theorem dX7_init_67 : decode cX7_init 67 = .ok (.dup, 1) := o_89 (u1_3 hc_X7_init_64 rfl) rfl
theorem dX7_init_68 : decode cX7_init 68 = .ok (.aload_n 1, 1) := o_43 (u1_4 hc_X7_init_64 rfl) rfl
theorem dX7_init_69 : decode cX7_init 69 = .ok (.invokespecial 36, 3) := o_183 (u1_5 hc_X7_init_64 rfl) (u2_d (u1_6 hc_X7_init_64 rfl) (u1_7 hc_X7_init_64 rfl) rfl) rfl
theorem dX7_init_72 : decode cX7_init 72 = .ok (.putfield 39, 3) := o_181 (u1_8 hc_X7_init_64 rfl) (u2_d (u1_9 hc_X7_init_64 rfl) (u1_10 hc_X7_init_64 rfl) rfl) rfl
theorem dX7_init_75 : decode cX7_init 75 = .ok (.aload_n 0, 1) := o_42 (u1_11 hc_X7_init_64 rfl) rfl
theorem dX7_init_76 : decode cX7_init 76 = .ok (.new 43, 3) := o_187 (u1_12 hc_X7_init_64 rfl) (u2_d (u1_13 hc_X7_init_64 rfl) (u1_14 hc_X7_init_64 rfl) rfl) rfl
theorem dX7_init_79 : decode cX7_init 79 = .ok (.dup, 1) := o_89 (u1_15 hc_X7_init_64 rfl) rfl
theorem hc_X7_init_80 : ((bL cX7_init).drop 80).take 18 = [43, 45, 42, 180, 0, 39, 183, 0, 45, 181, 0, 48, 42, 187, 0, 52, 89, 43] := by decide +kernel
theorem dX7_init_80 : decode cX7_init 80 = .ok (.aload_n 1, 1) := o_43 (u1_0 hc_X7_init_80 rfl) rfl
theorem dX7_init_81 : decode cX7_init 81 = .ok (.aload_n 3, 1) := o_45 (u1_1 hc_X7_init_80 rfl) rfl
theorem dX7_init_82 : decode cX7_init 82 = .ok (.aload_n 0, 1) := o_42 (u1_2 hc_X7_init_80 rfl) rfl
theorem dX7_init_83 : decode cX7_init 83 = .ok (.getfield 39, 3) := o_180 (u1_3 hc_X7_init_80 rfl) (u2_d (u1_4 hc_X7_init_80 rfl) (u1_5 hc_X7_init_80 rfl) rfl) rfl
theorem dX7_init_86 : decode cX7_init 86 = .ok (.invokespecial 45, 3) := o_183 (u1_6 hc_X7_init_80 rfl) (u2_d (u1_7 hc_X7_init_80 rfl) (u1_8 hc_X7_init_80 rfl) rfl) rfl
theorem dX7_init_89 : decode cX7_init 89 = .ok (.putfield 48, 3) := o_181 (u1_9 hc_X7_init_80 rfl) (u2_d (u1_10 hc_X7_init_80 rfl) (u1_11 hc_X7_init_80 rfl) rfl) rfl
theorem dX7_init_92 : decode cX7_init 92 = .ok (.aload_n 0, 1) := o_42 (u1_12 hc_X7_init_80 rfl) rfl
theorem dX7_init_93 : decode cX7_init 93 = .ok (.new 52, 3) := o_187 (u1_13 hc_X7_init_80 rfl) (u2_d (u1_14 hc_X7_init_80 rfl) (u1_15 hc_X7_init_80 rfl) rfl) rfl
theorem hc_X7_init_96 : ((bL cX7_init).drop 96).take 18 = [89, 43, 44, 45, 25, 4, 42, 180, 0, 48, 183, 0, 54, 181, 0, 57, 42, 16] := by decide +kernel
theorem dX7_init_96 : decode cX7_init 96 = .ok (.dup, 1) := o_89 (u1_0 hc_X7_init_96 rfl) rfl
theorem dX7_init_97 : decode cX7_init 97 = .ok (.aload_n 1, 1) := o_43 (u1_1 hc_X7_init_96 rfl) rfl
theorem dX7_init_98 : decode cX7_init 98 = .ok (.aload_n 2, 1) := o_44 (u1_2 hc_X7_init_96 rfl) rfl
