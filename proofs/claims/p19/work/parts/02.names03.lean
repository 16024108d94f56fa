theorem dX7_init_99 : decode cX7_init 99 = .ok (.aload_n 3, 1) := o_45 (u1_3 hc_X7_init_96 rfl) rfl
theorem dX7_init_100 : decode cX7_init 100 = .ok (.aload 4, 2) := o_25 (u1_4 hc_X7_init_96 rfl) (u1_5 hc_X7_init_96 rfl) rfl
theorem dX7_init_102 : decode cX7_init 102 = .ok (.aload_n 0, 1) := o_42 (u1_6 hc_X7_init_96 rfl) rfl
theorem dX7_init_103 : decode cX7_init 103 = .ok (.getfield 48, 3) := o_180 (u1_7 hc_X7_init_96 rfl) (u2_d (u1_8 hc_X7_init_96 rfl) (u1_9 hc_X7_init_96 rfl) rfl) rfl
theorem dX7_init_106 : decode cX7_init 106 = .ok (.invokespecial 54, 3) := o_183 (u1_10 hc_X7_init_96 rfl) (u2_d (u1_11 hc_X7_init_96 rfl) (u1_12 hc_X7_init_96 rfl) rfl) rfl
theorem dX7_init_109 : decode cX7_init 109 = .ok (.putfield 57, 3) := o_181 (u1_13 hc_X7_init_96 rfl) (u2_d (u1_14 hc_X7_init_96 rfl) (u1_15 hc_X7_init_96 rfl) rfl) rfl
theorem hc_X7_init_112 : ((bL cX7_init).drop 112).take 18 = [42, 16, 247, 181, 0, 61, 177] := by decide +kernel
theorem dX7_init_112 : decode cX7_init 112 = .ok (.aload_n 0, 1) := o_42 (u1_0 hc_X7_init_112 rfl) rfl
theorem dX7_init_113 : decode cX7_init 113 = .ok (.bipush (-9), 2) := o_16 (u1_1 hc_X7_init_112 rfl) (s1_d (u1_2 hc_X7_init_112 rfl) rfl) rfl
theorem dX7_init_115 : decode cX7_init 115 = .ok (.putfield 61, 3) := o_181 (u1_3 hc_X7_init_112 rfl) (u2_d (u1_4 hc_X7_init_112 rfl) (u1_5 hc_X7_init_112 rfl) rfl) rfl
theorem dX7_init_118 : decode cX7_init 118 = .ok (.return_, 1) := o_177 (u1_6 hc_X7_init_112 rfl) rfl
theorem hc_X7_startFrom_0 : ((bL cX7_startFrom).drop 0).take 18 = [43, 180, 0, 65, 3, 42, 180, 0, 39, 180, 0, 65, 3, 16, 30, 184, 0, 68] := by decide +kernel
theorem dX7_startFrom_0 : decode cX7_startFrom 0 = .ok (.aload_n 1, 1) := o_43 (u1_0 hc_X7_startFrom_0 rfl) rfl
theorem dX7_startFrom_1 : decode cX7_startFrom 1 = .ok (.getfield 65, 3) := o_180 (u1_1 hc_X7_startFrom_0 rfl) (u2_d (u1_2 hc_X7_startFrom_0 rfl) (u1_3 hc_X7_startFrom_0 rfl) rfl) rfl
theorem dX7_startFrom_4 : decode cX7_startFrom 4 = .ok (.iconst 0, 1) := o_3 (u1_4 hc_X7_startFrom_0 rfl) rfl
theorem dX7_startFrom_5 : decode cX7_startFrom 5 = .ok (.aload_n 0, 1) := o_42 (u1_5 hc_X7_startFrom_0 rfl) rfl
theorem dX7_startFrom_6 : decode cX7_startFrom 6 = .ok (.getfield 39, 3) := o_180 (u1_6 hc_X7_startFrom_0 rfl) (u2_d (u1_7 hc_X7_startFrom_0 rfl) (u1_8 hc_X7_startFrom_0 rfl) rfl) rfl
theorem dX7_startFrom_9 : decode cX7_startFrom 9 = .ok (.getfield 65, 3) := o_180 (u1_9 hc_X7_startFrom_0 rfl) (u2_d (u1_10 hc_X7_startFrom_0 rfl) (u1_11 hc_X7_startFrom_0 rfl) rfl) rfl
theorem dX7_startFrom_12 : decode cX7_startFrom 12 = .ok (.iconst 0, 1) := o_3 (u1_12 hc_X7_startFrom_0 rfl) rfl
theorem dX7_startFrom_13 : decode cX7_startFrom 13 = .ok (.bipush 30, 2) := o_16 (u1_13 hc_X7_startFrom_0 rfl) (s1_d (u1_14 hc_X7_startFrom_0 rfl) rfl) rfl
theorem dX7_startFrom_15 : decode cX7_startFrom 15 = .ok (.invokestatic 68, 3) := o_184 (u1_15 hc_X7_startFrom_0 rfl) (u2_d (u1_16 hc_X7_startFrom_0 rfl) (u1_17 hc_X7_startFrom_0 rfl) rfl) rfl
theorem hc_X7_startFrom_16 : ((bL cX7_startFrom).drop 16).take 18 = [0, 68, 42, 180, 0, 57, 28, 181, 0, 74, 177] := by decide +kernel
theorem dX7_startFrom_18 : decode cX7_startFrom 18 = .ok (.aload_n 0, 1) := o_42 (u1_2 hc_X7_startFrom_16 rfl) rfl
theorem dX7_startFrom_19 : decode cX7_startFrom 19 = .ok (.getfield 57, 3) := o_180 (u1_3 hc_X7_startFrom_16 rfl) (u2_d (u1_4 hc_X7_startFrom_16 rfl) (u1_5 hc_X7_startFrom_16 rfl) rfl) rfl
theorem dX7_startFrom_22 : decode cX7_startFrom 22 = .ok (.iload_n 2, 1) := o_28 (u1_6 hc_X7_startFrom_16 rfl) rfl
theorem dX7_startFrom_23 : decode cX7_startFrom 23 = .ok (.putfield 74, 3) := o_181 (u1_7 hc_X7_startFrom_16 rfl) (u2_d (u1_8 hc_X7_startFrom_16 rfl) (u1_9 hc_X7_startFrom_16 rfl) rfl) rfl
theorem dX7_startFrom_26 : decode cX7_startFrom 26 = .ok (.return_, 1) := o_177 (u1_10 hc_X7_startFrom_16 rfl) rfl
theorem hc_X7_search_0 : ((bL cX7_search).drop 0).take 18 = [42, 27, 181, 0, 77, 42, 28, 181, 0, 80, 42, 16, 247, 181, 0, 83, 42, 3] := by decide +kernel
theorem dX7_search_0 : decode cX7_search 0 = .ok (.aload_n 0, 1) := o_42 (u1_0 hc_X7_search_0 rfl) rfl
theorem dX7_search_1 : decode cX7_search 1 = .ok (.iload_n 1, 1) := o_27 (u1_1 hc_X7_search_0 rfl) rfl
theorem dX7_search_2 : decode cX7_search 2 = .ok (.putfield 77, 3) := o_181 (u1_2 hc_X7_search_0 rfl) (u2_d (u1_3 hc_X7_search_0 rfl) (u1_4 hc_X7_search_0 rfl) rfl) rfl
theorem dX7_search_5 : decode cX7_search 5 = .ok (.aload_n 0, 1) := o_42 (u1_5 hc_X7_search_0 rfl) rfl
theorem dX7_search_6 : decode cX7_search 6 = .ok (.iload_n 2, 1) := o_28 (u1_6 hc_X7_search_0 rfl) rfl
theorem dX7_search_7 : decode cX7_search 7 = .ok (.putfield 80, 3) := o_181 (u1_7 hc_X7_search_0 rfl) (u2_d (u1_8 hc_X7_search_0 rfl) (u1_9 hc_X7_search_0 rfl) rfl) rfl
theorem dX7_search_10 : decode cX7_search 10 = .ok (.aload_n 0, 1) := o_42 (u1_10 hc_X7_search_0 rfl) rfl
theorem dX7_search_11 : decode cX7_search 11 = .ok (.bipush (-9), 2) := o_16 (u1_11 hc_X7_search_0 rfl) (s1_d (u1_12 hc_X7_search_0 rfl) rfl) rfl
theorem dX7_search_13 : decode cX7_search 13 = .ok (.putfield 83, 3) := o_181 (u1_13 hc_X7_search_0 rfl) (u2_d (u1_14 hc_X7_search_0 rfl) (u1_15 hc_X7_search_0 rfl) rfl) rfl
theorem hc_X7_search_16 : ((bL cX7_search).drop 16).take 18 = [42, 3, 181, 0, 86, 42, 180, 0, 18, 16, 247, 184, 0, 89, 42, 182, 0, 95] := by decide +kernel
theorem dX7_search_16 : decode cX7_search 16 = .ok (.aload_n 0, 1) := o_42 (u1_0 hc_X7_search_16 rfl) rfl
theorem dX7_search_17 : decode cX7_search 17 = .ok (.iconst 0, 1) := o_3 (u1_1 hc_X7_search_16 rfl) rfl
theorem dX7_search_18 : decode cX7_search 18 = .ok (.putfield 86, 3) := o_181 (u1_2 hc_X7_search_16 rfl) (u2_d (u1_3 hc_X7_search_16 rfl) (u1_4 hc_X7_search_16 rfl) rfl) rfl
theorem dX7_search_21 : decode cX7_search 21 = .ok (.aload_n 0, 1) := o_42 (u1_5 hc_X7_search_16 rfl) rfl
theorem dX7_search_22 : decode cX7_search 22 = .ok (.getfield 18, 3) := o_180 (u1_6 hc_X7_search_16 rfl) (u2_d (u1_7 hc_X7_search_16 rfl) (u1_8 hc_X7_search_16 rfl) rfl) rfl
theorem dX7_search_25 : decode cX7_search 25 = .ok (.bipush (-9), 2) := o_16 (u1_9 hc_X7_search_16 rfl) (s1_d (u1_10 hc_X7_search_16 rfl) rfl) rfl
theorem dX7_search_27 : decode cX7_search 27 = .ok (.invokestatic 89, 3) := o_184 (u1_11 hc_X7_search_16 rfl) (u2_d (u1_12 hc_X7_search_16 rfl) (u1_13 hc_X7_search_16 rfl) rfl) rfl
theorem dX7_search_30 : decode cX7_search 30 = .ok (.aload_n 0, 1) := o_42 (u1_14 hc_X7_search_16 rfl) rfl
theorem dX7_search_31 : decode cX7_search 31 = .ok (.invokevirtual 95, 3) := o_182 (u1_15 hc_X7_search_16 rfl) (u2_d (u1_16 hc_X7_search_16 rfl) (u1_17 hc_X7_search_16 rfl) rfl) rfl
theorem hc_X7_search_32 : ((bL cX7_search).drop 32).take 18 = [0, 95, 54, 4, 42, 21, 4, 42, 21, 4, 182, 0, 99, 16, 247, 3, 182, 0] := by decide +kernel
theorem dX7_search_34 : decode cX7_search 34 = .ok (.istore 4, 2) := o_54 (u1_2 hc_X7_search_32 rfl) (u1_3 hc_X7_search_32 rfl) rfl
theorem dX7_search_36 : decode cX7_search 36 = .ok (.aload_n 0, 1) := o_42 (u1_4 hc_X7_search_32 rfl) rfl
theorem dX7_search_37 : decode cX7_search 37 = .ok (.iload 4, 2) := o_21 (u1_5 hc_X7_search_32 rfl) (u1_6 hc_X7_search_32 rfl) rfl
theorem dX7_search_39 : decode cX7_search 39 = .ok (.aload_n 0, 1) := o_42 (u1_7 hc_X7_search_32 rfl) rfl
theorem dX7_search_40 : decode cX7_search 40 = .ok (.iload 4, 2) := o_21 (u1_8 hc_X7_search_32 rfl) (u1_9 hc_X7_search_32 rfl) rfl
theorem dX7_search_42 : decode cX7_search 42 = .ok (.invokevirtual 99, 3) := o_182 (u1_10 hc_X7_search_32 rfl) (u2_d (u1_11 hc_X7_search_32 rfl) (u1_12 hc_X7_search_32 rfl) rfl) rfl
theorem dX7_search_45 : decode cX7_search 45 = .ok (.bipush (-9), 2) := o_16 (u1_13 hc_X7_search_32 rfl) (s1_d (u1_14 hc_X7_search_32 rfl) rfl) rfl
theorem dX7_search_47 : decode cX7_search 47 = .ok (.iconst 0, 1) := o_3 (u1_15 hc_X7_search_32 rfl) rfl
theorem hc_X7_search_48 : ((bL cX7_search).drop 48).take 18 = [182, 0, 103, 3, 54, 5, 21, 5, 29, 162, 0, 31, 21, 5, 42, 180, 0, 86] := by decide +kernel
theorem dX7_search_48 : decode cX7_search 48 = .ok (.invokevirtual 103, 3) := o_182 (u1_0 hc_X7_search_48 rfl) (u2_d (u1_1 hc_X7_search_48 rfl) (u1_2 hc_X7_search_48 rfl) rfl) rfl
theorem dX7_search_51 : decode cX7_search 51 = .ok (.iconst 0, 1) := o_3 (u1_3 hc_X7_search_48 rfl) rfl
theorem dX7_search_52 : decode cX7_search 52 = .ok (.istore 5, 2) := o_54 (u1_4 hc_X7_search_48 rfl) (u1_5 hc_X7_search_48 rfl) rfl
theorem dX7_search_54 : decode cX7_search 54 = .ok (.iload 5, 2) := o_21 (u1_6 hc_X7_search_48 rfl) (u1_7 hc_X7_search_48 rfl) rfl
theorem dX7_search_56 : decode cX7_search 56 = .ok (.iload_n 3, 1) := o_29 (u1_8 hc_X7_search_48 rfl) rfl
theorem dX7_search_57 : decode cX7_search 57 = .ok (.if_icmp .ge 31, 3) := o_162 (u1_9 hc_X7_search_48 rfl) (s2_d (u2_d (u1_10 hc_X7_search_48 rfl) (u1_11 hc_X7_search_48 rfl) rfl) rfl) rfl
theorem dX7_search_60 : decode cX7_search 60 = .ok (.iload 5, 2) := o_21 (u1_12 hc_X7_search_48 rfl) (u1_13 hc_X7_search_48 rfl) rfl
theorem dX7_search_62 : decode cX7_search 62 = .ok (.aload_n 0, 1) := o_42 (u1_14 hc_X7_search_48 rfl) rfl
theorem dX7_search_63 : decode cX7_search 63 = .ok (.getfield 86, 3) := o_180 (u1_15 hc_X7_search_48 rfl) (u2_d (u1_16 hc_X7_search_48 rfl) (u1_17 hc_X7_search_48 rfl) rfl) rfl
theorem hc_X7_search_64 : ((bL cX7_search).drop 64).take 18 = [0, 86, 162, 0, 22, 42, 182, 0, 107, 154, 0, 15, 42, 21, 5, 182, 0, 111] := by decide +kernel
theorem dX7_search_66 : decode cX7_search 66 = .ok (.if_icmp .ge 22, 3) := o_162 (u1_2 hc_X7_search_64 rfl) (s2_d (u2_d (u1_3 hc_X7_search_64 rfl) (u1_4 hc_X7_search_64 rfl) rfl) rfl) rfl
theorem dX7_search_69 : decode cX7_search 69 = .ok (.aload_n 0, 1) := o_42 (u1_5 hc_X7_search_64 rfl) rfl
theorem dX7_search_70 : decode cX7_search 70 = .ok (.invokevirtual 107, 3) := o_182 (u1_6 hc_X7_search_64 rfl) (u2_d (u1_7 hc_X7_search_64 rfl) (u1_8 hc_X7_search_64 rfl) rfl) rfl
theorem dX7_search_73 : decode cX7_search 73 = .ok (.ifCond .ne 15, 3) := o_154 (u1_9 hc_X7_search_64 rfl) (s2_d (u2_d (u1_10 hc_X7_search_64 rfl) (u1_11 hc_X7_search_64 rfl) rfl) rfl) rfl
theorem dX7_search_76 : decode cX7_search 76 = .ok (.aload_n 0, 1) := o_42 (u1_12 hc_X7_search_64 rfl) rfl
theorem dX7_search_77 : decode cX7_search 77 = .ok (.iload 5, 2) := o_21 (u1_13 hc_X7_search_64 rfl) (u1_14 hc_X7_search_64 rfl) rfl
theorem dX7_search_79 : decode cX7_search 79 = .ok (.invokevirtual 111, 3) := o_182 (u1_15 hc_X7_search_64 rfl) (u2_d (u1_16 hc_X7_search_64 rfl) (u1_17 hc_X7_search_64 rfl) rfl) rfl
theorem hc_X7_search_80 : ((bL cX7_search).drop 80).take 18 = [0, 111, 132, 5, 1, 167, 255, 225, 42, 182, 0, 115, 42, 180, 0, 61, 172] := by decide +kernel
theorem dX7_search_82 : decode cX7_search 82 = .ok (.iinc 5 1, 3) := o_132 (u1_2 hc_X7_search_80 rfl) (u1_3 hc_X7_search_80 rfl) (s1_d (u1_4 hc_X7_search_80 rfl) rfl) rfl
theorem dX7_search_85 : decode cX7_search 85 = .ok (.goto (-31), 3) := o_167 (u1_5 hc_X7_search_80 rfl) (s2_d (u2_d (u1_6 hc_X7_search_80 rfl) (u1_7 hc_X7_search_80 rfl) rfl) rfl) rfl
theorem dX7_search_88 : decode cX7_search 88 = .ok (.aload_n 0, 1) := o_42 (u1_8 hc_X7_search_80 rfl) rfl
theorem dX7_search_89 : decode cX7_search 89 = .ok (.invokevirtual 115, 3) := o_182 (u1_9 hc_X7_search_80 rfl) (u2_d (u1_10 hc_X7_search_80 rfl) (u1_11 hc_X7_search_80 rfl) rfl) rfl
theorem dX7_search_92 : decode cX7_search 92 = .ok (.aload_n 0, 1) := o_42 (u1_12 hc_X7_search_80 rfl) rfl
theorem dX7_search_93 : decode cX7_search 93 = .ok (.getfield 61, 3) := o_180 (u1_13 hc_X7_search_80 rfl) (u2_d (u1_14 hc_X7_search_80 rfl) (u1_15 hc_X7_search_80 rfl) rfl) rfl
theorem hc_X7_search_96 : ((bL cX7_search).drop 96).take 18 = [172] := by decide +kernel
theorem dX7_search_96 : decode cX7_search 96 = .ok (.ireturn, 1) := o_172 (u1_0 hc_X7_search_96 rfl) rfl
theorem hc_X7_isEnded_0 : ((bL cX7_isEnded).drop 0).take 18 = [42, 180, 0, 83, 16, 247, 160, 0, 13, 42, 180, 0, 86, 17, 1, 44, 161, 0] := by decide +kernel
theorem dX7_isEnded_0 : decode cX7_isEnded 0 = .ok (.aload_n 0, 1) := o_42 (u1_0 hc_X7_isEnded_0 rfl) rfl
theorem dX7_isEnded_1 : decode cX7_isEnded 1 = .ok (.getfield 83, 3) := o_180 (u1_1 hc_X7_isEnded_0 rfl) (u2_d (u1_2 hc_X7_isEnded_0 rfl) (u1_3 hc_X7_isEnded_0 rfl) rfl) rfl
theorem dX7_isEnded_4 : decode cX7_isEnded 4 = .ok (.bipush (-9), 2) := o_16 (u1_4 hc_X7_isEnded_0 rfl) (s1_d (u1_5 hc_X7_isEnded_0 rfl) rfl) rfl
theorem dX7_isEnded_6 : decode cX7_isEnded 6 = .ok (.if_icmp .ne 13, 3) := o_160 (u1_6 hc_X7_isEnded_0 rfl) (s2_d (u2_d (u1_7 hc_X7_isEnded_0 rfl) (u1_8 hc_X7_isEnded_0 rfl) rfl) rfl) rfl
theorem dX7_isEnded_9 : decode cX7_isEnded 9 = .ok (.aload_n 0, 1) := o_42 (u1_9 hc_X7_isEnded_0 rfl) rfl
theorem dX7_isEnded_10 : decode cX7_isEnded 10 = .ok (.getfield 86, 3) := o_180 (u1_10 hc_X7_isEnded_0 rfl) (u2_d (u1_11 hc_X7_isEnded_0 rfl) (u1_12 hc_X7_isEnded_0 rfl) rfl) rfl
theorem dX7_isEnded_13 : decode cX7_isEnded 13 = .ok (.sipush 300, 3) := o_17 (u1_13 hc_X7_isEnded_0 rfl) (s2_d (u2_d (u1_14 hc_X7_isEnded_0 rfl) (u1_15 hc_X7_isEnded_0 rfl) rfl) rfl) rfl
theorem hc_X7_isEnded_16 : ((bL cX7_isEnded).drop 16).take 18 = [161, 0, 7, 4, 167, 0, 4, 3, 172] := by decide +kernel
theorem dX7_isEnded_16 : decode cX7_isEnded 16 = .ok (.if_icmp .lt 7, 3) := o_161 (u1_0 hc_X7_isEnded_16 rfl) (s2_d (u2_d (u1_1 hc_X7_isEnded_16 rfl) (u1_2 hc_X7_isEnded_16 rfl) rfl) rfl) rfl
theorem dX7_isEnded_19 : decode cX7_isEnded 19 = .ok (.iconst 1, 1) := o_4 (u1_3 hc_X7_isEnded_16 rfl) rfl
theorem dX7_isEnded_20 : decode cX7_isEnded 20 = .ok (.goto 4, 3) := o_167 (u1_4 hc_X7_isEnded_16 rfl) (s2_d (u2_d (u1_5 hc_X7_isEnded_16 rfl) (u1_6 hc_X7_isEnded_16 rfl) rfl) rfl) rfl
theorem dX7_isEnded_23 : decode cX7_isEnded 23 = .ok (.iconst 0, 1) := o_3 (u1_7 hc_X7_isEnded_16 rfl) rfl
theorem dX7_isEnded_24 : decode cX7_isEnded 24 = .ok (.ireturn, 1) := o_172 (u1_8 hc_X7_isEnded_16 rfl) rfl
theorem hc_X7_tryFrom_0 : ((bL cX7_tryFrom).drop 0).take 18 = [42, 180, 0, 9, 27, 16, 30, 104, 42, 180, 0, 39, 180, 0, 65, 3, 16, 30] := by decide +kernel
theorem dX7_tryFrom_0 : decode cX7_tryFrom 0 = .ok (.aload_n 0, 1) := o_42 (u1_0 hc_X7_tryFrom_0 rfl) rfl
theorem dX7_tryFrom_1 : decode cX7_tryFrom 1 = .ok (.getfield 9, 3) := o_180 (u1_1 hc_X7_tryFrom_0 rfl) (u2_d (u1_2 hc_X7_tryFrom_0 rfl) (u1_3 hc_X7_tryFrom_0 rfl) rfl) rfl
theorem dX7_tryFrom_4 : decode cX7_tryFrom 4 = .ok (.iload_n 1, 1) := o_27 (u1_4 hc_X7_tryFrom_0 rfl) rfl
theorem dX7_tryFrom_5 : decode cX7_tryFrom 5 = .ok (.bipush 30, 2) := o_16 (u1_5 hc_X7_tryFrom_0 rfl) (s1_d (u1_6 hc_X7_tryFrom_0 rfl) rfl) rfl
theorem dX7_tryFrom_7 : decode cX7_tryFrom 7 = .ok (.imul, 1) := o_104 (u1_7 hc_X7_tryFrom_0 rfl) rfl
theorem dX7_tryFrom_8 : decode cX7_tryFrom 8 = .ok (.aload_n 0, 1) := o_42 (u1_8 hc_X7_tryFrom_0 rfl) rfl
theorem dX7_tryFrom_9 : decode cX7_tryFrom 9 = .ok (.getfield 39, 3) := o_180 (u1_9 hc_X7_tryFrom_0 rfl) (u2_d (u1_10 hc_X7_tryFrom_0 rfl) (u1_11 hc_X7_tryFrom_0 rfl) rfl) rfl
theorem dX7_tryFrom_12 : decode cX7_tryFrom 12 = .ok (.getfield 65, 3) := o_180 (u1_12 hc_X7_tryFrom_0 rfl) (u2_d (u1_13 hc_X7_tryFrom_0 rfl) (u1_14 hc_X7_tryFrom_0 rfl) rfl) rfl
theorem dX7_tryFrom_15 : decode cX7_tryFrom 15 = .ok (.iconst 0, 1) := o_3 (u1_15 hc_X7_tryFrom_0 rfl) rfl
theorem hc_X7_tryFrom_16 : ((bL cX7_tryFrom).drop 16).take 18 = [16, 30, 184, 0, 68, 42, 180, 0, 48, 42, 180, 0, 57, 180, 0, 74, 182, 0] := by decide +kernel
theorem dX7_tryFrom_16 : decode cX7_tryFrom 16 = .ok (.bipush 30, 2) := o_16 (u1_0 hc_X7_tryFrom_16 rfl) (s1_d (u1_1 hc_X7_tryFrom_16 rfl) rfl) rfl
theorem dX7_tryFrom_18 : decode cX7_tryFrom 18 = .ok (.invokestatic 68, 3) := o_184 (u1_2 hc_X7_tryFrom_16 rfl) (u2_d (u1_3 hc_X7_tryFrom_16 rfl) (u1_4 hc_X7_tryFrom_16 rfl) rfl) rfl
theorem dX7_tryFrom_21 : decode cX7_tryFrom 21 = .ok (.aload_n 0, 1) := o_42 (u1_5 hc_X7_tryFrom_16 rfl) rfl
theorem dX7_tryFrom_22 : decode cX7_tryFrom 22 = .ok (.getfield 48, 3) := o_180 (u1_6 hc_X7_tryFrom_16 rfl) (u2_d (u1_7 hc_X7_tryFrom_16 rfl) (u1_8 hc_X7_tryFrom_16 rfl) rfl) rfl
theorem dX7_tryFrom_25 : decode cX7_tryFrom 25 = .ok (.aload_n 0, 1) := o_42 (u1_9 hc_X7_tryFrom_16 rfl) rfl
theorem dX7_tryFrom_26 : decode cX7_tryFrom 26 = .ok (.getfield 57, 3) := o_180 (u1_10 hc_X7_tryFrom_16 rfl) (u2_d (u1_11 hc_X7_tryFrom_16 rfl) (u1_12 hc_X7_tryFrom_16 rfl) rfl) rfl
theorem dX7_tryFrom_29 : decode cX7_tryFrom 29 = .ok (.getfield 74, 3) := o_180 (u1_13 hc_X7_tryFrom_16 rfl) (u2_d (u1_14 hc_X7_tryFrom_16 rfl) (u1_15 hc_X7_tryFrom_16 rfl) rfl) rfl
theorem hc_X7_tryFrom_32 : ((bL cX7_tryFrom).drop 32).take 18 = [182, 0, 118, 3, 61, 28, 16, 11, 163, 0, 80, 28, 154, 0, 8, 16, 10, 167] := by decide +kernel
theorem dX7_tryFrom_32 : decode cX7_tryFrom 32 = .ok (.invokevirtual 118, 3) := o_182 (u1_0 hc_X7_tryFrom_32 rfl) (u2_d (u1_1 hc_X7_tryFrom_32 rfl) (u1_2 hc_X7_tryFrom_32 rfl) rfl) rfl
theorem dX7_tryFrom_35 : decode cX7_tryFrom 35 = .ok (.iconst 0, 1) := o_3 (u1_3 hc_X7_tryFrom_32 rfl) rfl
theorem dX7_tryFrom_36 : decode cX7_tryFrom 36 = .ok (.istore_n 2, 1) := o_61 (u1_4 hc_X7_tryFrom_32 rfl) rfl
theorem dX7_tryFrom_37 : decode cX7_tryFrom 37 = .ok (.iload_n 2, 1) := o_28 (u1_5 hc_X7_tryFrom_32 rfl) rfl
theorem dX7_tryFrom_38 : decode cX7_tryFrom 38 = .ok (.bipush 11, 2) := o_16 (u1_6 hc_X7_tryFrom_32 rfl) (s1_d (u1_7 hc_X7_tryFrom_32 rfl) rfl) rfl
theorem dX7_tryFrom_40 : decode cX7_tryFrom 40 = .ok (.if_icmp .gt 80, 3) := o_163 (u1_8 hc_X7_tryFrom_32 rfl) (s2_d (u2_d (u1_9 hc_X7_tryFrom_32 rfl) (u1_10 hc_X7_tryFrom_32 rfl) rfl) rfl) rfl
theorem dX7_tryFrom_43 : decode cX7_tryFrom 43 = .ok (.iload_n 2, 1) := o_28 (u1_11 hc_X7_tryFrom_32 rfl) rfl
theorem dX7_tryFrom_44 : decode cX7_tryFrom 44 = .ok (.ifCond .ne 8, 3) := o_154 (u1_12 hc_X7_tryFrom_32 rfl) (s2_d (u2_d (u1_13 hc_X7_tryFrom_32 rfl) (u1_14 hc_X7_tryFrom_32 rfl) rfl) rfl) rfl
theorem dX7_tryFrom_47 : decode cX7_tryFrom 47 = .ok (.bipush 10, 2) := o_16 (u1_15 hc_X7_tryFrom_32 rfl) (s1_d (u1_16 hc_X7_tryFrom_32 rfl) rfl) rfl
theorem hc_X7_tryFrom_48 : ((bL cX7_tryFrom).drop 48).take 18 = [10, 167, 0, 21, 28, 184, 0, 121, 153, 0, 13, 42, 180, 0, 30, 180, 0, 125] := by decide +kernel
theorem dX7_tryFrom_49 : decode cX7_tryFrom 49 = .ok (.goto 21, 3) := o_167 (u1_1 hc_X7_tryFrom_48 rfl) (s2_d (u2_d (u1_2 hc_X7_tryFrom_48 rfl) (u1_3 hc_X7_tryFrom_48 rfl) rfl) rfl) rfl
theorem dX7_tryFrom_52 : decode cX7_tryFrom 52 = .ok (.iload_n 2, 1) := o_28 (u1_4 hc_X7_tryFrom_48 rfl) rfl
theorem dX7_tryFrom_53 : decode cX7_tryFrom 53 = .ok (.invokestatic 121, 3) := o_184 (u1_5 hc_X7_tryFrom_48 rfl) (u2_d (u1_6 hc_X7_tryFrom_48 rfl) (u1_7 hc_X7_tryFrom_48 rfl) rfl) rfl
theorem dX7_tryFrom_56 : decode cX7_tryFrom 56 = .ok (.ifCond .eq 13, 3) := o_153 (u1_8 hc_X7_tryFrom_48 rfl) (s2_d (u2_d (u1_9 hc_X7_tryFrom_48 rfl) (u1_10 hc_X7_tryFrom_48 rfl) rfl) rfl) rfl
theorem dX7_tryFrom_59 : decode cX7_tryFrom 59 = .ok (.aload_n 0, 1) := o_42 (u1_11 hc_X7_tryFrom_48 rfl) rfl
theorem dX7_tryFrom_60 : decode cX7_tryFrom 60 = .ok (.getfield 30, 3) := o_180 (u1_12 hc_X7_tryFrom_48 rfl) (u2_d (u1_13 hc_X7_tryFrom_48 rfl) (u1_14 hc_X7_tryFrom_48 rfl) rfl) rfl
theorem dX7_tryFrom_63 : decode cX7_tryFrom 63 = .ok (.getfield 125, 3) := o_180 (u1_15 hc_X7_tryFrom_48 rfl) (u2_d (u1_16 hc_X7_tryFrom_48 rfl) (u1_17 hc_X7_tryFrom_48 rfl) rfl) rfl
theorem hc_X7_tryFrom_64 : ((bL cX7_tryFrom).drop 64).take 18 = [0, 125, 167, 0, 4, 4, 62, 3, 54, 4, 21, 4, 29, 162, 0, 37, 42, 182] := by decide +kernel
theorem dX7_tryFrom_66 : decode cX7_tryFrom 66 = .ok (.goto 4, 3) := o_167 (u1_2 hc_X7_tryFrom_64 rfl) (s2_d (u2_d (u1_3 hc_X7_tryFrom_64 rfl) (u1_4 hc_X7_tryFrom_64 rfl) rfl) rfl) rfl
theorem dX7_tryFrom_69 : decode cX7_tryFrom 69 = .ok (.iconst 1, 1) := o_4 (u1_5 hc_X7_tryFrom_64 rfl) rfl
theorem dX7_tryFrom_70 : decode cX7_tryFrom 70 = .ok (.istore_n 3, 1) := o_62 (u1_6 hc_X7_tryFrom_64 rfl) rfl
theorem dX7_tryFrom_71 : decode cX7_tryFrom 71 = .ok (.iconst 0, 1) := o_3 (u1_7 hc_X7_tryFrom_64 rfl) rfl
theorem dX7_tryFrom_72 : decode cX7_tryFrom 72 = .ok (.istore 4, 2) := o_54 (u1_8 hc_X7_tryFrom_64 rfl) (u1_9 hc_X7_tryFrom_64 rfl) rfl
theorem dX7_tryFrom_74 : decode cX7_tryFrom 74 = .ok (.iload 4, 2) := o_21 (u1_10 hc_X7_tryFrom_64 rfl) (u1_11 hc_X7_tryFrom_64 rfl) rfl
theorem dX7_tryFrom_76 : decode cX7_tryFrom 76 = .ok (.iload_n 3, 1) := o_29 (u1_12 hc_X7_tryFrom_64 rfl) rfl
theorem dX7_tryFrom_77 : decode cX7_tryFrom 77 = .ok (.if_icmp .ge 37, 3) := o_162 (u1_13 hc_X7_tryFrom_64 rfl) (s2_d (u2_d (u1_14 hc_X7_tryFrom_64 rfl) (u1_15 hc_X7_tryFrom_64 rfl) rfl) rfl) rfl
theorem hc_X7_tryFrom_80 : ((bL cX7_tryFrom).drop 80).take 18 = [42, 182, 0, 107, 154, 0, 30, 42, 180, 0, 57, 28, 21, 4, 182, 0, 130, 154] := by decide +kernel
theorem dX7_tryFrom_80 : decode cX7_tryFrom 80 = .ok (.aload_n 0, 1) := o_42 (u1_0 hc_X7_tryFrom_80 rfl) rfl
theorem dX7_tryFrom_81 : decode cX7_tryFrom 81 = .ok (.invokevirtual 107, 3) := o_182 (u1_1 hc_X7_tryFrom_80 rfl) (u2_d (u1_2 hc_X7_tryFrom_80 rfl) (u1_3 hc_X7_tryFrom_80 rfl) rfl) rfl
theorem dX7_tryFrom_84 : decode cX7_tryFrom 84 = .ok (.ifCond .ne 30, 3) := o_154 (u1_4 hc_X7_tryFrom_80 rfl) (s2_d (u2_d (u1_5 hc_X7_tryFrom_80 rfl) (u1_6 hc_X7_tryFrom_80 rfl) rfl) rfl) rfl
theorem dX7_tryFrom_87 : decode cX7_tryFrom 87 = .ok (.aload_n 0, 1) := o_42 (u1_7 hc_X7_tryFrom_80 rfl) rfl
theorem dX7_tryFrom_88 : decode cX7_tryFrom 88 = .ok (.getfield 57, 3) := o_180 (u1_8 hc_X7_tryFrom_80 rfl) (u2_d (u1_9 hc_X7_tryFrom_80 rfl) (u1_10 hc_X7_tryFrom_80 rfl) rfl) rfl
theorem dX7_tryFrom_91 : decode cX7_tryFrom 91 = .ok (.iload_n 2, 1) := o_28 (u1_11 hc_X7_tryFrom_80 rfl) rfl
theorem dX7_tryFrom_92 : decode cX7_tryFrom 92 = .ok (.iload 4, 2) := o_21 (u1_12 hc_X7_tryFrom_80 rfl) (u1_13 hc_X7_tryFrom_80 rfl) rfl
theorem dX7_tryFrom_94 : decode cX7_tryFrom 94 = .ok (.invokevirtual 130, 3) := o_182 (u1_14 hc_X7_tryFrom_80 rfl) (u2_d (u1_15 hc_X7_tryFrom_80 rfl) (u1_16 hc_X7_tryFrom_80 rfl) rfl) rfl
theorem hc_X7_tryFrom_96 : ((bL cX7_tryFrom).drop 96).take 18 = [130, 154, 0, 11, 42, 27, 28, 21, 4, 182, 0, 134, 132, 4, 1, 167, 255, 219] := by decide +kernel
theorem dX7_tryFrom_97 : decode cX7_tryFrom 97 = .ok (.ifCond .ne 11, 3) := o_154 (u1_1 hc_X7_tryFrom_96 rfl) (s2_d (u2_d (u1_2 hc_X7_tryFrom_96 rfl) (u1_3 hc_X7_tryFrom_96 rfl) rfl) rfl) rfl
theorem dX7_tryFrom_100 : decode cX7_tryFrom 100 = .ok (.aload_n 0, 1) := o_42 (u1_4 hc_X7_tryFrom_96 rfl) rfl
theorem dX7_tryFrom_101 : decode cX7_tryFrom 101 = .ok (.iload_n 1, 1) := o_27 (u1_5 hc_X7_tryFrom_96 rfl) rfl
theorem dX7_tryFrom_102 : decode cX7_tryFrom 102 = .ok (.iload_n 2, 1) := o_28 (u1_6 hc_X7_tryFrom_96 rfl) rfl
theorem dX7_tryFrom_103 : decode cX7_tryFrom 103 = .ok (.iload 4, 2) := o_21 (u1_7 hc_X7_tryFrom_96 rfl) (u1_8 hc_X7_tryFrom_96 rfl) rfl
theorem dX7_tryFrom_105 : decode cX7_tryFrom 105 = .ok (.invokevirtual 134, 3) := o_182 (u1_9 hc_X7_tryFrom_96 rfl) (u2_d (u1_10 hc_X7_tryFrom_96 rfl) (u1_11 hc_X7_tryFrom_96 rfl) rfl) rfl
theorem dX7_tryFrom_108 : decode cX7_tryFrom 108 = .ok (.iinc 4 1, 3) := o_132 (u1_12 hc_X7_tryFrom_96 rfl) (u1_13 hc_X7_tryFrom_96 rfl) (s1_d (u1_14 hc_X7_tryFrom_96 rfl) rfl) rfl
theorem dX7_tryFrom_111 : decode cX7_tryFrom 111 = .ok (.goto (-37), 3) := o_167 (u1_15 hc_X7_tryFrom_96 rfl) (s2_d (u2_d (u1_16 hc_X7_tryFrom_96 rfl) (u1_17 hc_X7_tryFrom_96 rfl) rfl) rfl) rfl
theorem hc_X7_tryFrom_112 : ((bL cX7_tryFrom).drop 112).take 18 = [255, 219, 132, 2, 1, 167, 255, 176, 177] := by decide +kernel
theorem dX7_tryFrom_114 : decode cX7_tryFrom 114 = .ok (.iinc 2 1, 3) := o_132 (u1_2 hc_X7_tryFrom_112 rfl) (u1_3 hc_X7_tryFrom_112 rfl) (s1_d (u1_4 hc_X7_tryFrom_112 rfl) rfl) rfl
theorem dX7_tryFrom_117 : decode cX7_tryFrom 117 = .ok (.goto (-80), 3) := o_167 (u1_5 hc_X7_tryFrom_112 rfl) (s2_d (u2_d (u1_6 hc_X7_tryFrom_112 rfl) (u1_7 hc_X7_tryFrom_112 rfl) rfl) rfl) rfl
theorem dX7_tryFrom_120 : decode cX7_tryFrom 120 = .ok (.return_, 1) := o_177 (u1_8 hc_X7_tryFrom_112 rfl) rfl
theorem hc_X7_tryWith_0 : ((bL cX7_tryWith).drop 0).take 18 = [28, 184, 0, 138, 153, 0, 13, 42, 180, 0, 30, 180, 0, 125, 167, 0, 4, 4] := by decide +kernel
theorem dX7_tryWith_0 : decode cX7_tryWith 0 = .ok (.iload_n 2, 1) := o_28 (u1_0 hc_X7_tryWith_0 rfl) rfl
theorem dX7_tryWith_1 : decode cX7_tryWith 1 = .ok (.invokestatic 138, 3) := o_184 (u1_1 hc_X7_tryWith_0 rfl) (u2_d (u1_2 hc_X7_tryWith_0 rfl) (u1_3 hc_X7_tryWith_0 rfl) rfl) rfl
theorem dX7_tryWith_4 : decode cX7_tryWith 4 = .ok (.ifCond .eq 13, 3) := o_153 (u1_4 hc_X7_tryWith_0 rfl) (s2_d (u2_d (u1_5 hc_X7_tryWith_0 rfl) (u1_6 hc_X7_tryWith_0 rfl) rfl) rfl) rfl
theorem dX7_tryWith_7 : decode cX7_tryWith 7 = .ok (.aload_n 0, 1) := o_42 (u1_7 hc_X7_tryWith_0 rfl) rfl
theorem dX7_tryWith_8 : decode cX7_tryWith 8 = .ok (.getfield 30, 3) := o_180 (u1_8 hc_X7_tryWith_0 rfl) (u2_d (u1_9 hc_X7_tryWith_0 rfl) (u1_10 hc_X7_tryWith_0 rfl) rfl) rfl
theorem dX7_tryWith_11 : decode cX7_tryWith 11 = .ok (.getfield 125, 3) := o_180 (u1_11 hc_X7_tryWith_0 rfl) (u2_d (u1_12 hc_X7_tryWith_0 rfl) (u1_13 hc_X7_tryWith_0 rfl) rfl) rfl
theorem dX7_tryWith_14 : decode cX7_tryWith 14 = .ok (.goto 4, 3) := o_167 (u1_14 hc_X7_tryWith_0 rfl) (s2_d (u2_d (u1_15 hc_X7_tryWith_0 rfl) (u1_16 hc_X7_tryWith_0 rfl) rfl) rfl) rfl
theorem hc_X7_tryWith_16 : ((bL cX7_tryWith).drop 16).take 18 = [4, 4, 54, 4, 3, 54, 5, 21, 5, 21, 4, 162, 0, 39, 42, 182, 0, 107] := by decide +kernel
theorem dX7_tryWith_17 : decode cX7_tryWith 17 = .ok (.iconst 1, 1) := o_4 (u1_1 hc_X7_tryWith_16 rfl) rfl
theorem dX7_tryWith_18 : decode cX7_tryWith 18 = .ok (.istore 4, 2) := o_54 (u1_2 hc_X7_tryWith_16 rfl) (u1_3 hc_X7_tryWith_16 rfl) rfl
theorem dX7_tryWith_20 : decode cX7_tryWith 20 = .ok (.iconst 0, 1) := o_3 (u1_4 hc_X7_tryWith_16 rfl) rfl
theorem dX7_tryWith_21 : decode cX7_tryWith 21 = .ok (.istore 5, 2) := o_54 (u1_5 hc_X7_tryWith_16 rfl) (u1_6 hc_X7_tryWith_16 rfl) rfl
theorem dX7_tryWith_23 : decode cX7_tryWith 23 = .ok (.iload 5, 2) := o_21 (u1_7 hc_X7_tryWith_16 rfl) (u1_8 hc_X7_tryWith_16 rfl) rfl
theorem dX7_tryWith_25 : decode cX7_tryWith 25 = .ok (.iload 4, 2) := o_21 (u1_9 hc_X7_tryWith_16 rfl) (u1_10 hc_X7_tryWith_16 rfl) rfl
theorem dX7_tryWith_27 : decode cX7_tryWith 27 = .ok (.if_icmp .ge 39, 3) := o_162 (u1_11 hc_X7_tryWith_16 rfl) (s2_d (u2_d (u1_12 hc_X7_tryWith_16 rfl) (u1_13 hc_X7_tryWith_16 rfl) rfl) rfl) rfl
theorem dX7_tryWith_30 : decode cX7_tryWith 30 = .ok (.aload_n 0, 1) := o_42 (u1_14 hc_X7_tryWith_16 rfl) rfl
theorem dX7_tryWith_31 : decode cX7_tryWith 31 = .ok (.invokevirtual 107, 3) := o_182 (u1_15 hc_X7_tryWith_16 rfl) (u2_d (u1_16 hc_X7_tryWith_16 rfl) (u1_17 hc_X7_tryWith_16 rfl) rfl) rfl
theorem hc_X7_tryWith_32 : ((bL cX7_tryWith).drop 32).take 18 = [0, 107, 154, 0, 32, 42, 180, 0, 57, 28, 29, 21, 5, 182, 0, 141, 154, 0] := by decide +kernel
theorem dX7_tryWith_34 : decode cX7_tryWith 34 = .ok (.ifCond .ne 32, 3) := o_154 (u1_2 hc_X7_tryWith_32 rfl) (s2_d (u2_d (u1_3 hc_X7_tryWith_32 rfl) (u1_4 hc_X7_tryWith_32 rfl) rfl) rfl) rfl
theorem dX7_tryWith_37 : decode cX7_tryWith 37 = .ok (.aload_n 0, 1) := o_42 (u1_5 hc_X7_tryWith_32 rfl) rfl
theorem dX7_tryWith_38 : decode cX7_tryWith 38 = .ok (.getfield 57, 3) := o_180 (u1_6 hc_X7_tryWith_32 rfl) (u2_d (u1_7 hc_X7_tryWith_32 rfl) (u1_8 hc_X7_tryWith_32 rfl) rfl) rfl
theorem dX7_tryWith_41 : decode cX7_tryWith 41 = .ok (.iload_n 2, 1) := o_28 (u1_9 hc_X7_tryWith_32 rfl) rfl
theorem dX7_tryWith_42 : decode cX7_tryWith 42 = .ok (.iload_n 3, 1) := o_29 (u1_10 hc_X7_tryWith_32 rfl) rfl
theorem dX7_tryWith_43 : decode cX7_tryWith 43 = .ok (.iload 5, 2) := o_21 (u1_11 hc_X7_tryWith_32 rfl) (u1_12 hc_X7_tryWith_32 rfl) rfl
theorem dX7_tryWith_45 : decode cX7_tryWith 45 = .ok (.invokevirtual 141, 3) := o_182 (u1_13 hc_X7_tryWith_32 rfl) (u2_d (u1_14 hc_X7_tryWith_32 rfl) (u1_15 hc_X7_tryWith_32 rfl) rfl) rfl
theorem hc_X7_tryWith_48 : ((bL cX7_tryWith).drop 48).take 18 = [154, 0, 12, 42, 27, 28, 29, 21, 5, 182, 0, 145, 132, 5, 1, 167, 255, 216] := by decide +kernel
theorem dX7_tryWith_48 : decode cX7_tryWith 48 = .ok (.ifCond .ne 12, 3) := o_154 (u1_0 hc_X7_tryWith_48 rfl) (s2_d (u2_d (u1_1 hc_X7_tryWith_48 rfl) (u1_2 hc_X7_tryWith_48 rfl) rfl) rfl) rfl
theorem dX7_tryWith_51 : decode cX7_tryWith 51 = .ok (.aload_n 0, 1) := o_42 (u1_3 hc_X7_tryWith_48 rfl) rfl
theorem dX7_tryWith_52 : decode cX7_tryWith 52 = .ok (.iload_n 1, 1) := o_27 (u1_4 hc_X7_tryWith_48 rfl) rfl
theorem dX7_tryWith_53 : decode cX7_tryWith 53 = .ok (.iload_n 2, 1) := o_28 (u1_5 hc_X7_tryWith_48 rfl) rfl
theorem dX7_tryWith_54 : decode cX7_tryWith 54 = .ok (.iload_n 3, 1) := o_29 (u1_6 hc_X7_tryWith_48 rfl) rfl
theorem dX7_tryWith_55 : decode cX7_tryWith 55 = .ok (.iload 5, 2) := o_21 (u1_7 hc_X7_tryWith_48 rfl) (u1_8 hc_X7_tryWith_48 rfl) rfl
theorem dX7_tryWith_57 : decode cX7_tryWith 57 = .ok (.invokevirtual 145, 3) := o_182 (u1_9 hc_X7_tryWith_48 rfl) (u2_d (u1_10 hc_X7_tryWith_48 rfl) (u1_11 hc_X7_tryWith_48 rfl) rfl) rfl
theorem dX7_tryWith_60 : decode cX7_tryWith 60 = .ok (.iinc 5 1, 3) := o_132 (u1_12 hc_X7_tryWith_48 rfl) (u1_13 hc_X7_tryWith_48 rfl) (s1_d (u1_14 hc_X7_tryWith_48 rfl) rfl) rfl
theorem dX7_tryWith_63 : decode cX7_tryWith 63 = .ok (.goto (-40), 3) := o_167 (u1_15 hc_X7_tryWith_48 rfl) (s2_d (u2_d (u1_16 hc_X7_tryWith_48 rfl) (u1_17 hc_X7_tryWith_48 rfl) rfl) rfl) rfl
theorem hc_X7_tryWith_64 : ((bL cX7_tryWith).drop 64).take 18 = [255, 216, 177] := by decide +kernel
theorem dX7_tryWith_66 : decode cX7_tryWith 66 = .ok (.return_, 1) := o_177 (u1_2 hc_X7_tryWith_64 rfl) rfl
theorem hc_X7_step_0 : ((bL cX7_step).drop 0).take 18 = [42, 180, 0, 57, 28, 29, 182, 0, 148, 54, 5, 42, 180, 0, 39, 180, 0, 65] := by decide +kernel
theorem dX7_step_0 : decode cX7_step 0 = .ok (.aload_n 0, 1) := o_42 (u1_0 hc_X7_step_0 rfl) rfl
theorem dX7_step_1 : decode cX7_step 1 = .ok (.getfield 57, 3) := o_180 (u1_1 hc_X7_step_0 rfl) (u2_d (u1_2 hc_X7_step_0 rfl) (u1_3 hc_X7_step_0 rfl) rfl) rfl
theorem dX7_step_4 : decode cX7_step 4 = .ok (.iload_n 2, 1) := o_28 (u1_4 hc_X7_step_0 rfl) rfl
theorem dX7_step_5 : decode cX7_step 5 = .ok (.iload_n 3, 1) := o_29 (u1_5 hc_X7_step_0 rfl) rfl
theorem dX7_step_6 : decode cX7_step 6 = .ok (.invokevirtual 148, 3) := o_182 (u1_6 hc_X7_step_0 rfl) (u2_d (u1_7 hc_X7_step_0 rfl) (u1_8 hc_X7_step_0 rfl) rfl) rfl
theorem dX7_step_9 : decode cX7_step 9 = .ok (.istore 5, 2) := o_54 (u1_9 hc_X7_step_0 rfl) (u1_10 hc_X7_step_0 rfl) rfl
theorem dX7_step_11 : decode cX7_step 11 = .ok (.aload_n 0, 1) := o_42 (u1_11 hc_X7_step_0 rfl) rfl
theorem dX7_step_12 : decode cX7_step 12 = .ok (.getfield 39, 3) := o_180 (u1_12 hc_X7_step_0 rfl) (u2_d (u1_13 hc_X7_step_0 rfl) (u1_14 hc_X7_step_0 rfl) rfl) rfl
theorem dX7_step_15 : decode cX7_step 15 = .ok (.getfield 65, 3) := o_180 (u1_15 hc_X7_step_0 rfl) (u2_d (u1_16 hc_X7_step_0 rfl) (u1_17 hc_X7_step_0 rfl) rfl) rfl
theorem hc_X7_step_16 : ((bL cX7_step).drop 16).take 18 = [0, 65, 21, 5, 46, 54, 6, 42, 180, 0, 57, 28, 29, 21, 4, 182, 0, 151] := by decide +kernel
theorem dX7_step_18 : decode cX7_step 18 = .ok (.iload 5, 2) := o_21 (u1_2 hc_X7_step_16 rfl) (u1_3 hc_X7_step_16 rfl) rfl
theorem dX7_step_20 : decode cX7_step 20 = .ok (.iaload, 1) := o_46 (u1_4 hc_X7_step_16 rfl) rfl
theorem dX7_step_21 : decode cX7_step 21 = .ok (.istore 6, 2) := o_54 (u1_5 hc_X7_step_16 rfl) (u1_6 hc_X7_step_16 rfl) rfl
theorem dX7_step_23 : decode cX7_step 23 = .ok (.aload_n 0, 1) := o_42 (u1_7 hc_X7_step_16 rfl) rfl
theorem dX7_step_24 : decode cX7_step 24 = .ok (.getfield 57, 3) := o_180 (u1_8 hc_X7_step_16 rfl) (u2_d (u1_9 hc_X7_step_16 rfl) (u1_10 hc_X7_step_16 rfl) rfl) rfl
theorem dX7_step_27 : decode cX7_step 27 = .ok (.iload_n 2, 1) := o_28 (u1_11 hc_X7_step_16 rfl) rfl
theorem dX7_step_28 : decode cX7_step 28 = .ok (.iload_n 3, 1) := o_29 (u1_12 hc_X7_step_16 rfl) rfl
theorem dX7_step_29 : decode cX7_step 29 = .ok (.iload 4, 2) := o_21 (u1_13 hc_X7_step_16 rfl) (u1_14 hc_X7_step_16 rfl) rfl
theorem dX7_step_31 : decode cX7_step 31 = .ok (.invokevirtual 151, 3) := o_182 (u1_15 hc_X7_step_16 rfl) (u2_d (u1_16 hc_X7_step_16 rfl) (u1_17 hc_X7_step_16 rfl) rfl) rfl
theorem hc_X7_step_32 : ((bL cX7_step).drop 32).take 18 = [0, 151, 54, 7, 42, 180, 0, 15, 27, 46, 21, 7, 21, 6, 100, 21, 5, 184] := by decide +kernel
theorem dX7_step_34 : decode cX7_step 34 = .ok (.istore 7, 2) := o_54 (u1_2 hc_X7_step_32 rfl) (u1_3 hc_X7_step_32 rfl) rfl
theorem dX7_step_36 : decode cX7_step 36 = .ok (.aload_n 0, 1) := o_42 (u1_4 hc_X7_step_32 rfl) rfl
theorem dX7_step_37 : decode cX7_step 37 = .ok (.getfield 15, 3) := o_180 (u1_5 hc_X7_step_32 rfl) (u2_d (u1_6 hc_X7_step_32 rfl) (u1_7 hc_X7_step_32 rfl) rfl) rfl
theorem dX7_step_40 : decode cX7_step 40 = .ok (.iload_n 1, 1) := o_27 (u1_8 hc_X7_step_32 rfl) rfl
theorem dX7_step_41 : decode cX7_step 41 = .ok (.iaload, 1) := o_46 (u1_9 hc_X7_step_32 rfl) rfl
theorem dX7_step_42 : decode cX7_step 42 = .ok (.iload 7, 2) := o_21 (u1_10 hc_X7_step_32 rfl) (u1_11 hc_X7_step_32 rfl) rfl
theorem dX7_step_44 : decode cX7_step 44 = .ok (.iload 6, 2) := o_21 (u1_12 hc_X7_step_32 rfl) (u1_13 hc_X7_step_32 rfl) rfl
theorem dX7_step_46 : decode cX7_step 46 = .ok (.isub, 1) := o_100 (u1_14 hc_X7_step_32 rfl) rfl
theorem dX7_step_47 : decode cX7_step 47 = .ok (.iload 5, 2) := o_21 (u1_15 hc_X7_step_32 rfl) (u1_16 hc_X7_step_32 rfl) rfl
theorem hc_X7_step_48 : ((bL cX7_step).drop 48).take 18 = [5, 184, 0, 154, 104, 96, 54, 8, 42, 180, 0, 39, 180, 0, 65, 21, 5, 21] := by decide +kernel
theorem dX7_step_49 : decode cX7_step 49 = .ok (.invokestatic 154, 3) := o_184 (u1_1 hc_X7_step_48 rfl) (u2_d (u1_2 hc_X7_step_48 rfl) (u1_3 hc_X7_step_48 rfl) rfl) rfl
theorem dX7_step_52 : decode cX7_step 52 = .ok (.imul, 1) := o_104 (u1_4 hc_X7_step_48 rfl) rfl
theorem dX7_step_53 : decode cX7_step 53 = .ok (.iadd, 1) := o_96 (u1_5 hc_X7_step_48 rfl) rfl
theorem dX7_step_54 : decode cX7_step 54 = .ok (.istore 8, 2) := o_54 (u1_6 hc_X7_step_48 rfl) (u1_7 hc_X7_step_48 rfl) rfl
theorem dX7_step_56 : decode cX7_step 56 = .ok (.aload_n 0, 1) := o_42 (u1_8 hc_X7_step_48 rfl) rfl
theorem dX7_step_57 : decode cX7_step 57 = .ok (.getfield 39, 3) := o_180 (u1_9 hc_X7_step_48 rfl) (u2_d (u1_10 hc_X7_step_48 rfl) (u1_11 hc_X7_step_48 rfl) rfl) rfl
theorem dX7_step_60 : decode cX7_step 60 = .ok (.getfield 65, 3) := o_180 (u1_12 hc_X7_step_48 rfl) (u2_d (u1_13 hc_X7_step_48 rfl) (u1_14 hc_X7_step_48 rfl) rfl) rfl
theorem dX7_step_63 : decode cX7_step 63 = .ok (.iload 5, 2) := o_21 (u1_15 hc_X7_step_48 rfl) (u1_16 hc_X7_step_48 rfl) rfl
theorem hc_X7_step_64 : ((bL cX7_step).drop 64).take 18 = [5, 21, 7, 79, 42, 21, 8, 182, 0, 99, 54, 9, 42, 180, 0, 18, 21, 9] := by decide +kernel
theorem dX7_step_65 : decode cX7_step 65 = .ok (.iload 7, 2) := o_21 (u1_1 hc_X7_step_64 rfl) (u1_2 hc_X7_step_64 rfl) rfl
theorem dX7_step_67 : decode cX7_step 67 = .ok (.iastore, 1) := o_79 (u1_3 hc_X7_step_64 rfl) rfl
theorem dX7_step_68 : decode cX7_step 68 = .ok (.aload_n 0, 1) := o_42 (u1_4 hc_X7_step_64 rfl) rfl
theorem dX7_step_69 : decode cX7_step 69 = .ok (.iload 8, 2) := o_21 (u1_5 hc_X7_step_64 rfl) (u1_6 hc_X7_step_64 rfl) rfl
theorem dX7_step_71 : decode cX7_step 71 = .ok (.invokevirtual 99, 3) := o_182 (u1_7 hc_X7_step_64 rfl) (u2_d (u1_8 hc_X7_step_64 rfl) (u1_9 hc_X7_step_64 rfl) rfl) rfl
theorem dX7_step_74 : decode cX7_step 74 = .ok (.istore 9, 2) := o_54 (u1_10 hc_X7_step_64 rfl) (u1_11 hc_X7_step_64 rfl) rfl
theorem dX7_step_76 : decode cX7_step 76 = .ok (.aload_n 0, 1) := o_42 (u1_12 hc_X7_step_64 rfl) rfl
theorem dX7_step_77 : decode cX7_step 77 = .ok (.getfield 18, 3) := o_180 (u1_13 hc_X7_step_64 rfl) (u2_d (u1_14 hc_X7_step_64 rfl) (u1_15 hc_X7_step_64 rfl) rfl) rfl
theorem hc_X7_step_80 : ((bL cX7_step).drop 80).take 18 = [21, 9, 46, 16, 247, 160, 0, 19, 42, 21, 8, 21, 9, 27, 28, 29, 21, 4] := by decide +kernel
theorem dX7_step_80 : decode cX7_step 80 = .ok (.iload 9, 2) := o_21 (u1_0 hc_X7_step_80 rfl) (u1_1 hc_X7_step_80 rfl) rfl
theorem dX7_step_82 : decode cX7_step 82 = .ok (.iaload, 1) := o_46 (u1_2 hc_X7_step_80 rfl) rfl
theorem dX7_step_83 : decode cX7_step 83 = .ok (.bipush (-9), 2) := o_16 (u1_3 hc_X7_step_80 rfl) (s1_d (u1_4 hc_X7_step_80 rfl) rfl) rfl
theorem dX7_step_85 : decode cX7_step 85 = .ok (.if_icmp .ne 19, 3) := o_160 (u1_5 hc_X7_step_80 rfl) (s2_d (u2_d (u1_6 hc_X7_step_80 rfl) (u1_7 hc_X7_step_80 rfl) rfl) rfl) rfl
theorem dX7_step_88 : decode cX7_step 88 = .ok (.aload_n 0, 1) := o_42 (u1_8 hc_X7_step_80 rfl) rfl
theorem dX7_step_89 : decode cX7_step 89 = .ok (.iload 8, 2) := o_21 (u1_9 hc_X7_step_80 rfl) (u1_10 hc_X7_step_80 rfl) rfl
theorem dX7_step_91 : decode cX7_step 91 = .ok (.iload 9, 2) := o_21 (u1_11 hc_X7_step_80 rfl) (u1_12 hc_X7_step_80 rfl) rfl
theorem dX7_step_93 : decode cX7_step 93 = .ok (.iload_n 1, 1) := o_27 (u1_13 hc_X7_step_80 rfl) rfl
theorem dX7_step_94 : decode cX7_step 94 = .ok (.iload_n 2, 1) := o_28 (u1_14 hc_X7_step_80 rfl) rfl
theorem dX7_step_95 : decode cX7_step 95 = .ok (.iload_n 3, 1) := o_29 (u1_15 hc_X7_step_80 rfl) rfl
theorem hc_X7_step_96 : ((bL cX7_step).drop 96).take 18 = [21, 4, 184, 0, 157, 182, 0, 103, 42, 180, 0, 39, 180, 0, 65, 21, 5, 21] := by decide +kernel
theorem dX7_step_96 : decode cX7_step 96 = .ok (.iload 4, 2) := o_21 (u1_0 hc_X7_step_96 rfl) (u1_1 hc_X7_step_96 rfl) rfl
theorem dX7_step_98 : decode cX7_step 98 = .ok (.invokestatic 157, 3) := o_184 (u1_2 hc_X7_step_96 rfl) (u2_d (u1_3 hc_X7_step_96 rfl) (u1_4 hc_X7_step_96 rfl) rfl) rfl
theorem dX7_step_101 : decode cX7_step 101 = .ok (.invokevirtual 103, 3) := o_182 (u1_5 hc_X7_step_96 rfl) (u2_d (u1_6 hc_X7_step_96 rfl) (u1_7 hc_X7_step_96 rfl) rfl) rfl
theorem dX7_step_104 : decode cX7_step 104 = .ok (.aload_n 0, 1) := o_42 (u1_8 hc_X7_step_96 rfl) rfl
theorem dX7_step_105 : decode cX7_step 105 = .ok (.getfield 39, 3) := o_180 (u1_9 hc_X7_step_96 rfl) (u2_d (u1_10 hc_X7_step_96 rfl) (u1_11 hc_X7_step_96 rfl) rfl) rfl
theorem dX7_step_108 : decode cX7_step 108 = .ok (.getfield 65, 3) := o_180 (u1_12 hc_X7_step_96 rfl) (u2_d (u1_13 hc_X7_step_96 rfl) (u1_14 hc_X7_step_96 rfl) rfl) rfl
theorem dX7_step_111 : decode cX7_step 111 = .ok (.iload 5, 2) := o_21 (u1_15 hc_X7_step_96 rfl) (u1_16 hc_X7_step_96 rfl) rfl
theorem hc_X7_step_112 : ((bL cX7_step).drop 112).take 18 = [5, 21, 6, 79, 177] := by decide +kernel
theorem dX7_step_113 : decode cX7_step 113 = .ok (.iload 6, 2) := o_21 (u1_1 hc_X7_step_112 rfl) (u1_2 hc_X7_step_112 rfl) rfl
theorem dX7_step_115 : decode cX7_step 115 = .ok (.iastore, 1) := o_79 (u1_3 hc_X7_step_112 rfl) rfl
theorem dX7_step_116 : decode cX7_step 116 = .ok (.return_, 1) := o_177 (u1_4 hc_X7_step_112 rfl) rfl
theorem hc_X7_keep_0 : ((bL cX7_keep).drop 0).take 18 = [42, 180, 0, 39, 180, 0, 65, 3, 42, 180, 0, 9, 42, 180, 0, 86, 16, 30] := by decide +kernel
theorem dX7_keep_0 : decode cX7_keep 0 = .ok (.aload_n 0, 1) := o_42 (u1_0 hc_X7_keep_0 rfl) rfl
theorem dX7_keep_1 : decode cX7_keep 1 = .ok (.getfield 39, 3) := o_180 (u1_1 hc_X7_keep_0 rfl) (u2_d (u1_2 hc_X7_keep_0 rfl) (u1_3 hc_X7_keep_0 rfl) rfl) rfl
theorem dX7_keep_4 : decode cX7_keep 4 = .ok (.getfield 65, 3) := o_180 (u1_4 hc_X7_keep_0 rfl) (u2_d (u1_5 hc_X7_keep_0 rfl) (u1_6 hc_X7_keep_0 rfl) rfl) rfl
theorem dX7_keep_7 : decode cX7_keep 7 = .ok (.iconst 0, 1) := o_3 (u1_7 hc_X7_keep_0 rfl) rfl
theorem dX7_keep_8 : decode cX7_keep 8 = .ok (.aload_n 0, 1) := o_42 (u1_8 hc_X7_keep_0 rfl) rfl
theorem dX7_keep_9 : decode cX7_keep 9 = .ok (.getfield 9, 3) := o_180 (u1_9 hc_X7_keep_0 rfl) (u2_d (u1_10 hc_X7_keep_0 rfl) (u1_11 hc_X7_keep_0 rfl) rfl) rfl
theorem dX7_keep_12 : decode cX7_keep 12 = .ok (.aload_n 0, 1) := o_42 (u1_12 hc_X7_keep_0 rfl) rfl
theorem dX7_keep_13 : decode cX7_keep 13 = .ok (.getfield 86, 3) := o_180 (u1_13 hc_X7_keep_0 rfl) (u2_d (u1_14 hc_X7_keep_0 rfl) (u1_15 hc_X7_keep_0 rfl) rfl) rfl
theorem hc_X7_keep_16 : ((bL cX7_keep).drop 16).take 18 = [16, 30, 104, 16, 30, 184, 0, 68, 42, 180, 0, 15, 42, 180, 0, 86, 27, 79] := by decide +kernel
theorem dX7_keep_16 : decode cX7_keep 16 = .ok (.bipush 30, 2) := o_16 (u1_0 hc_X7_keep_16 rfl) (s1_d (u1_1 hc_X7_keep_16 rfl) rfl) rfl
theorem dX7_keep_18 : decode cX7_keep 18 = .ok (.imul, 1) := o_104 (u1_2 hc_X7_keep_16 rfl) rfl
theorem dX7_keep_19 : decode cX7_keep 19 = .ok (.bipush 30, 2) := o_16 (u1_3 hc_X7_keep_16 rfl) (s1_d (u1_4 hc_X7_keep_16 rfl) rfl) rfl
theorem dX7_keep_21 : decode cX7_keep 21 = .ok (.invokestatic 68, 3) := o_184 (u1_5 hc_X7_keep_16 rfl) (u2_d (u1_6 hc_X7_keep_16 rfl) (u1_7 hc_X7_keep_16 rfl) rfl) rfl
theorem dX7_keep_24 : decode cX7_keep 24 = .ok (.aload_n 0, 1) := o_42 (u1_8 hc_X7_keep_16 rfl) rfl
theorem dX7_keep_25 : decode cX7_keep 25 = .ok (.getfield 15, 3) := o_180 (u1_9 hc_X7_keep_16 rfl) (u2_d (u1_10 hc_X7_keep_16 rfl) (u1_11 hc_X7_keep_16 rfl) rfl) rfl
theorem dX7_keep_28 : decode cX7_keep 28 = .ok (.aload_n 0, 1) := o_42 (u1_12 hc_X7_keep_16 rfl) rfl
theorem dX7_keep_29 : decode cX7_keep 29 = .ok (.getfield 86, 3) := o_180 (u1_13 hc_X7_keep_16 rfl) (u2_d (u1_14 hc_X7_keep_16 rfl) (u1_15 hc_X7_keep_16 rfl) rfl) rfl
theorem hc_X7_keep_32 : ((bL cX7_keep).drop 32).take 18 = [27, 79, 42, 180, 0, 21, 42, 180, 0, 86, 29, 79, 42, 180, 0, 24, 42, 180] := by decide +kernel
theorem dX7_keep_32 : decode cX7_keep 32 = .ok (.iload_n 1, 1) := o_27 (u1_0 hc_X7_keep_32 rfl) rfl
theorem dX7_keep_33 : decode cX7_keep 33 = .ok (.iastore, 1) := o_79 (u1_1 hc_X7_keep_32 rfl) rfl
theorem dX7_keep_34 : decode cX7_keep 34 = .ok (.aload_n 0, 1) := o_42 (u1_2 hc_X7_keep_32 rfl) rfl
theorem dX7_keep_35 : decode cX7_keep 35 = .ok (.getfield 21, 3) := o_180 (u1_3 hc_X7_keep_32 rfl) (u2_d (u1_4 hc_X7_keep_32 rfl) (u1_5 hc_X7_keep_32 rfl) rfl) rfl
theorem dX7_keep_38 : decode cX7_keep 38 = .ok (.aload_n 0, 1) := o_42 (u1_6 hc_X7_keep_32 rfl) rfl
theorem dX7_keep_39 : decode cX7_keep 39 = .ok (.getfield 86, 3) := o_180 (u1_7 hc_X7_keep_32 rfl) (u2_d (u1_8 hc_X7_keep_32 rfl) (u1_9 hc_X7_keep_32 rfl) rfl) rfl
theorem dX7_keep_42 : decode cX7_keep 42 = .ok (.iload_n 3, 1) := o_29 (u1_10 hc_X7_keep_32 rfl) rfl
theorem dX7_keep_43 : decode cX7_keep 43 = .ok (.iastore, 1) := o_79 (u1_11 hc_X7_keep_32 rfl) rfl
theorem dX7_keep_44 : decode cX7_keep 44 = .ok (.aload_n 0, 1) := o_42 (u1_12 hc_X7_keep_32 rfl) rfl
theorem dX7_keep_45 : decode cX7_keep 45 = .ok (.getfield 24, 3) := o_180 (u1_13 hc_X7_keep_32 rfl) (u2_d (u1_14 hc_X7_keep_32 rfl) (u1_15 hc_X7_keep_32 rfl) rfl) rfl
theorem hc_X7_keep_48 : ((bL cX7_keep).drop 48).take 18 = [42, 180, 0, 86, 21, 4, 79, 42, 180, 0, 18, 28, 42, 180, 0, 86, 79, 42] := by decide +kernel
theorem dX7_keep_48 : decode cX7_keep 48 = .ok (.aload_n 0, 1) := o_42 (u1_0 hc_X7_keep_48 rfl) rfl
theorem dX7_keep_49 : decode cX7_keep 49 = .ok (.getfield 86, 3) := o_180 (u1_1 hc_X7_keep_48 rfl) (u2_d (u1_2 hc_X7_keep_48 rfl) (u1_3 hc_X7_keep_48 rfl) rfl) rfl
theorem dX7_keep_52 : decode cX7_keep 52 = .ok (.iload 4, 2) := o_21 (u1_4 hc_X7_keep_48 rfl) (u1_5 hc_X7_keep_48 rfl) rfl
theorem dX7_keep_54 : decode cX7_keep 54 = .ok (.iastore, 1) := o_79 (u1_6 hc_X7_keep_48 rfl) rfl
theorem dX7_keep_55 : decode cX7_keep 55 = .ok (.aload_n 0, 1) := o_42 (u1_7 hc_X7_keep_48 rfl) rfl
theorem dX7_keep_56 : decode cX7_keep 56 = .ok (.getfield 18, 3) := o_180 (u1_8 hc_X7_keep_48 rfl) (u2_d (u1_9 hc_X7_keep_48 rfl) (u1_10 hc_X7_keep_48 rfl) rfl) rfl
theorem dX7_keep_59 : decode cX7_keep 59 = .ok (.iload_n 2, 1) := o_28 (u1_11 hc_X7_keep_48 rfl) rfl
theorem dX7_keep_60 : decode cX7_keep 60 = .ok (.aload_n 0, 1) := o_42 (u1_12 hc_X7_keep_48 rfl) rfl
theorem dX7_keep_61 : decode cX7_keep 61 = .ok (.getfield 86, 3) := o_180 (u1_13 hc_X7_keep_48 rfl) (u2_d (u1_14 hc_X7_keep_48 rfl) (u1_15 hc_X7_keep_48 rfl) rfl) rfl
theorem hc_X7_keep_64 : ((bL cX7_keep).drop 64).take 18 = [79, 42, 180, 0, 39, 42, 180, 0, 77, 182, 0, 160, 42, 180, 0, 80, 160, 0] := by decide +kernel
theorem dX7_keep_64 : decode cX7_keep 64 = .ok (.iastore, 1) := o_79 (u1_0 hc_X7_keep_64 rfl) rfl
theorem dX7_keep_65 : decode cX7_keep 65 = .ok (.aload_n 0, 1) := o_42 (u1_1 hc_X7_keep_64 rfl) rfl
theorem dX7_keep_66 : decode cX7_keep 66 = .ok (.getfield 39, 3) := o_180 (u1_2 hc_X7_keep_64 rfl) (u2_d (u1_3 hc_X7_keep_64 rfl) (u1_4 hc_X7_keep_64 rfl) rfl) rfl
theorem dX7_keep_69 : decode cX7_keep 69 = .ok (.aload_n 0, 1) := o_42 (u1_5 hc_X7_keep_64 rfl) rfl
theorem dX7_keep_70 : decode cX7_keep 70 = .ok (.getfield 77, 3) := o_180 (u1_6 hc_X7_keep_64 rfl) (u2_d (u1_7 hc_X7_keep_64 rfl) (u1_8 hc_X7_keep_64 rfl) rfl) rfl
theorem dX7_keep_73 : decode cX7_keep 73 = .ok (.invokevirtual 160, 3) := o_182 (u1_9 hc_X7_keep_64 rfl) (u2_d (u1_10 hc_X7_keep_64 rfl) (u1_11 hc_X7_keep_64 rfl) rfl) rfl
theorem dX7_keep_76 : decode cX7_keep 76 = .ok (.aload_n 0, 1) := o_42 (u1_12 hc_X7_keep_64 rfl) rfl
theorem dX7_keep_77 : decode cX7_keep 77 = .ok (.getfield 80, 3) := o_180 (u1_13 hc_X7_keep_64 rfl) (u2_d (u1_14 hc_X7_keep_64 rfl) (u1_15 hc_X7_keep_64 rfl) rfl) rfl
theorem hc_X7_keep_80 : ((bL cX7_keep).drop 80).take 18 = [160, 0, 11, 42, 42, 180, 0, 86, 181, 0, 83, 42, 89, 180, 0, 86, 4, 96] := by decide +kernel
theorem dX7_keep_80 : decode cX7_keep 80 = .ok (.if_icmp .ne 11, 3) := o_160 (u1_0 hc_X7_keep_80 rfl) (s2_d (u2_d (u1_1 hc_X7_keep_80 rfl) (u1_2 hc_X7_keep_80 rfl) rfl) rfl) rfl
theorem dX7_keep_83 : decode cX7_keep 83 = .ok (.aload_n 0, 1) := o_42 (u1_3 hc_X7_keep_80 rfl) rfl
theorem dX7_keep_84 : decode cX7_keep 84 = .ok (.aload_n 0, 1) := o_42 (u1_4 hc_X7_keep_80 rfl) rfl
theorem dX7_keep_85 : decode cX7_keep 85 = .ok (.getfield 86, 3) := o_180 (u1_5 hc_X7_keep_80 rfl) (u2_d (u1_6 hc_X7_keep_80 rfl) (u1_7 hc_X7_keep_80 rfl) rfl) rfl
theorem dX7_keep_88 : decode cX7_keep 88 = .ok (.putfield 83, 3) := o_181 (u1_8 hc_X7_keep_80 rfl) (u2_d (u1_9 hc_X7_keep_80 rfl) (u1_10 hc_X7_keep_80 rfl) rfl) rfl
theorem dX7_keep_91 : decode cX7_keep 91 = .ok (.aload_n 0, 1) := o_42 (u1_11 hc_X7_keep_80 rfl) rfl
theorem dX7_keep_92 : decode cX7_keep 92 = .ok (.dup, 1) := o_89 (u1_12 hc_X7_keep_80 rfl) rfl
theorem dX7_keep_93 : decode cX7_keep 93 = .ok (.getfield 86, 3) := o_180 (u1_13 hc_X7_keep_80 rfl) (u2_d (u1_14 hc_X7_keep_80 rfl) (u1_15 hc_X7_keep_80 rfl) rfl) rfl
theorem hc_X7_keep_96 : ((bL cX7_keep).drop 96).take 18 = [4, 96, 181, 0, 86, 177] := by decide +kernel
theorem dX7_keep_96 : decode cX7_keep 96 = .ok (.iconst 1, 1) := o_4 (u1_0 hc_X7_keep_96 rfl) rfl
theorem dX7_keep_97 : decode cX7_keep 97 = .ok (.iadd, 1) := o_96 (u1_1 hc_X7_keep_96 rfl) rfl
theorem dX7_keep_98 : decode cX7_keep 98 = .ok (.putfield 86, 3) := o_181 (u1_2 hc_X7_keep_96 rfl) (u2_d (u1_3 hc_X7_keep_96 rfl) (u1_4 hc_X7_keep_96 rfl) rfl) rfl
theorem dX7_keep_101 : decode cX7_keep 101 = .ok (.return_, 1) := o_177 (u1_5 hc_X7_keep_96 rfl) rfl
theorem hc_X7_weightOf_0 : ((bL cX7_weightOf).drop 0).take 18 = [5, 26, 104, 4, 96, 18, 163, 104, 172] := by decide +kernel
theorem dX7_weightOf_0 : decode cX7_weightOf 0 = .ok (.iconst 2, 1) := o_5 (u1_0 hc_X7_weightOf_0 rfl) rfl
theorem dX7_weightOf_1 : decode cX7_weightOf 1 = .ok (.iload_n 0, 1) := o_26 (u1_1 hc_X7_weightOf_0 rfl) rfl
theorem dX7_weightOf_2 : decode cX7_weightOf 2 = .ok (.imul, 1) := o_104 (u1_2 hc_X7_weightOf_0 rfl) rfl
theorem dX7_weightOf_3 : decode cX7_weightOf 3 = .ok (.iconst 1, 1) := o_4 (u1_3 hc_X7_weightOf_0 rfl) rfl
theorem dX7_weightOf_4 : decode cX7_weightOf 4 = .ok (.iadd, 1) := o_96 (u1_4 hc_X7_weightOf_0 rfl) rfl
theorem dX7_weightOf_5 : decode cX7_weightOf 5 = .ok (.ldc 163, 2) := o_18 (u1_5 hc_X7_weightOf_0 rfl) (u1_6 hc_X7_weightOf_0 rfl) rfl
theorem dX7_weightOf_7 : decode cX7_weightOf 7 = .ok (.imul, 1) := o_104 (u1_7 hc_X7_weightOf_0 rfl) rfl
theorem dX7_weightOf_8 : decode cX7_weightOf 8 = .ok (.ireturn, 1) := o_172 (u1_8 hc_X7_weightOf_0 rfl) rfl
theorem hc_X7_markOfScene_0 : ((bL cX7_markOfScene).drop 0).take 18 = [3, 60, 3, 61, 28, 16, 30, 162, 0, 26, 27, 42, 180, 0, 39, 180, 0, 65] := by decide +kernel
theorem dX7_markOfScene_0 : decode cX7_markOfScene 0 = .ok (.iconst 0, 1) := o_3 (u1_0 hc_X7_markOfScene_0 rfl) rfl
theorem dX7_markOfScene_1 : decode cX7_markOfScene 1 = .ok (.istore_n 1, 1) := o_60 (u1_1 hc_X7_markOfScene_0 rfl) rfl
theorem dX7_markOfScene_2 : decode cX7_markOfScene 2 = .ok (.iconst 0, 1) := o_3 (u1_2 hc_X7_markOfScene_0 rfl) rfl
theorem dX7_markOfScene_3 : decode cX7_markOfScene 3 = .ok (.istore_n 2, 1) := o_61 (u1_3 hc_X7_markOfScene_0 rfl) rfl
theorem dX7_markOfScene_4 : decode cX7_markOfScene 4 = .ok (.iload_n 2, 1) := o_28 (u1_4 hc_X7_markOfScene_0 rfl) rfl
theorem dX7_markOfScene_5 : decode cX7_markOfScene 5 = .ok (.bipush 30, 2) := o_16 (u1_5 hc_X7_markOfScene_0 rfl) (s1_d (u1_6 hc_X7_markOfScene_0 rfl) rfl) rfl
theorem dX7_markOfScene_7 : decode cX7_markOfScene 7 = .ok (.if_icmp .ge 26, 3) := o_162 (u1_7 hc_X7_markOfScene_0 rfl) (s2_d (u2_d (u1_8 hc_X7_markOfScene_0 rfl) (u1_9 hc_X7_markOfScene_0 rfl) rfl) rfl) rfl
theorem dX7_markOfScene_10 : decode cX7_markOfScene 10 = .ok (.iload_n 1, 1) := o_27 (u1_10 hc_X7_markOfScene_0 rfl) rfl
theorem dX7_markOfScene_11 : decode cX7_markOfScene 11 = .ok (.aload_n 0, 1) := o_42 (u1_11 hc_X7_markOfScene_0 rfl) rfl
theorem dX7_markOfScene_12 : decode cX7_markOfScene 12 = .ok (.getfield 39, 3) := o_180 (u1_12 hc_X7_markOfScene_0 rfl) (u2_d (u1_13 hc_X7_markOfScene_0 rfl) (u1_14 hc_X7_markOfScene_0 rfl) rfl) rfl
theorem dX7_markOfScene_15 : decode cX7_markOfScene 15 = .ok (.getfield 65, 3) := o_180 (u1_15 hc_X7_markOfScene_0 rfl) (u2_d (u1_16 hc_X7_markOfScene_0 rfl) (u1_17 hc_X7_markOfScene_0 rfl) rfl) rfl
theorem hc_X7_markOfScene_16 : ((bL cX7_markOfScene).drop 16).take 18 = [0, 65, 28, 46, 28, 184, 0, 154, 104, 96, 60, 132, 2, 1, 167, 255, 230, 27] := by decide +kernel
theorem dX7_markOfScene_18 : decode cX7_markOfScene 18 = .ok (.iload_n 2, 1) := o_28 (u1_2 hc_X7_markOfScene_16 rfl) rfl
theorem dX7_markOfScene_19 : decode cX7_markOfScene 19 = .ok (.iaload, 1) := o_46 (u1_3 hc_X7_markOfScene_16 rfl) rfl
theorem dX7_markOfScene_20 : decode cX7_markOfScene 20 = .ok (.iload_n 2, 1) := o_28 (u1_4 hc_X7_markOfScene_16 rfl) rfl
theorem dX7_markOfScene_21 : decode cX7_markOfScene 21 = .ok (.invokestatic 154, 3) := o_184 (u1_5 hc_X7_markOfScene_16 rfl) (u2_d (u1_6 hc_X7_markOfScene_16 rfl) (u1_7 hc_X7_markOfScene_16 rfl) rfl) rfl
theorem dX7_markOfScene_24 : decode cX7_markOfScene 24 = .ok (.imul, 1) := o_104 (u1_8 hc_X7_markOfScene_16 rfl) rfl
theorem dX7_markOfScene_25 : decode cX7_markOfScene 25 = .ok (.iadd, 1) := o_96 (u1_9 hc_X7_markOfScene_16 rfl) rfl
theorem dX7_markOfScene_26 : decode cX7_markOfScene 26 = .ok (.istore_n 1, 1) := o_60 (u1_10 hc_X7_markOfScene_16 rfl) rfl
theorem dX7_markOfScene_27 : decode cX7_markOfScene 27 = .ok (.iinc 2 1, 3) := o_132 (u1_11 hc_X7_markOfScene_16 rfl) (u1_12 hc_X7_markOfScene_16 rfl) (s1_d (u1_13 hc_X7_markOfScene_16 rfl) rfl) rfl
theorem dX7_markOfScene_30 : decode cX7_markOfScene 30 = .ok (.goto (-26), 3) := o_167 (u1_14 hc_X7_markOfScene_16 rfl) (s2_d (u2_d (u1_15 hc_X7_markOfScene_16 rfl) (u1_16 hc_X7_markOfScene_16 rfl) rfl) rfl) rfl
theorem hc_X7_markOfScene_32 : ((bL cX7_markOfScene).drop 32).take 18 = [230, 27, 172] := by decide +kernel
theorem dX7_markOfScene_33 : decode cX7_markOfScene 33 = .ok (.iload_n 1, 1) := o_27 (u1_1 hc_X7_markOfScene_32 rfl) rfl
theorem dX7_markOfScene_34 : decode cX7_markOfScene 34 = .ok (.ireturn, 1) := o_172 (u1_2 hc_X7_markOfScene_32 rfl) rfl
theorem hc_X7_slotFor_0 : ((bL cX7_slotFor).drop 0).take 18 = [27, 18, 163, 104, 16, 22, 124, 61, 3, 62, 29, 17, 4, 0, 162, 0, 58, 42] := by decide +kernel
theorem dX7_slotFor_0 : decode cX7_slotFor 0 = .ok (.iload_n 1, 1) := o_27 (u1_0 hc_X7_slotFor_0 rfl) rfl
theorem dX7_slotFor_1 : decode cX7_slotFor 1 = .ok (.ldc 163, 2) := o_18 (u1_1 hc_X7_slotFor_0 rfl) (u1_2 hc_X7_slotFor_0 rfl) rfl
theorem dX7_slotFor_3 : decode cX7_slotFor 3 = .ok (.imul, 1) := o_104 (u1_3 hc_X7_slotFor_0 rfl) rfl
theorem dX7_slotFor_4 : decode cX7_slotFor 4 = .ok (.bipush 22, 2) := o_16 (u1_4 hc_X7_slotFor_0 rfl) (s1_d (u1_5 hc_X7_slotFor_0 rfl) rfl) rfl
theorem dX7_slotFor_6 : decode cX7_slotFor 6 = .ok (.iushr, 1) := o_124 (u1_6 hc_X7_slotFor_0 rfl) rfl
theorem dX7_slotFor_7 : decode cX7_slotFor 7 = .ok (.istore_n 2, 1) := o_61 (u1_7 hc_X7_slotFor_0 rfl) rfl
theorem dX7_slotFor_8 : decode cX7_slotFor 8 = .ok (.iconst 0, 1) := o_3 (u1_8 hc_X7_slotFor_0 rfl) rfl
theorem dX7_slotFor_9 : decode cX7_slotFor 9 = .ok (.istore_n 3, 1) := o_62 (u1_9 hc_X7_slotFor_0 rfl) rfl
theorem dX7_slotFor_10 : decode cX7_slotFor 10 = .ok (.iload_n 3, 1) := o_29 (u1_10 hc_X7_slotFor_0 rfl) rfl
theorem dX7_slotFor_11 : decode cX7_slotFor 11 = .ok (.sipush 1024, 3) := o_17 (u1_11 hc_X7_slotFor_0 rfl) (s2_d (u2_d (u1_12 hc_X7_slotFor_0 rfl) (u1_13 hc_X7_slotFor_0 rfl) rfl) rfl) rfl
theorem dX7_slotFor_14 : decode cX7_slotFor 14 = .ok (.if_icmp .ge 58, 3) := o_162 (u1_14 hc_X7_slotFor_0 rfl) (s2_d (u2_d (u1_15 hc_X7_slotFor_0 rfl) (u1_16 hc_X7_slotFor_0 rfl) rfl) rfl) rfl
theorem hc_X7_slotFor_16 : ((bL cX7_slotFor).drop 16).take 18 = [58, 42, 180, 0, 18, 28, 46, 16, 247, 159, 0, 47, 42, 180, 0, 15, 42, 180] := by decide +kernel
theorem dX7_slotFor_17 : decode cX7_slotFor 17 = .ok (.aload_n 0, 1) := o_42 (u1_1 hc_X7_slotFor_16 rfl) rfl
theorem dX7_slotFor_18 : decode cX7_slotFor 18 = .ok (.getfield 18, 3) := o_180 (u1_2 hc_X7_slotFor_16 rfl) (u2_d (u1_3 hc_X7_slotFor_16 rfl) (u1_4 hc_X7_slotFor_16 rfl) rfl) rfl
theorem dX7_slotFor_21 : decode cX7_slotFor 21 = .ok (.iload_n 2, 1) := o_28 (u1_5 hc_X7_slotFor_16 rfl) rfl
theorem dX7_slotFor_22 : decode cX7_slotFor 22 = .ok (.iaload, 1) := o_46 (u1_6 hc_X7_slotFor_16 rfl) rfl
theorem dX7_slotFor_23 : decode cX7_slotFor 23 = .ok (.bipush (-9), 2) := o_16 (u1_7 hc_X7_slotFor_16 rfl) (s1_d (u1_8 hc_X7_slotFor_16 rfl) rfl) rfl
theorem dX7_slotFor_25 : decode cX7_slotFor 25 = .ok (.if_icmp .eq 47, 3) := o_159 (u1_9 hc_X7_slotFor_16 rfl) (s2_d (u2_d (u1_10 hc_X7_slotFor_16 rfl) (u1_11 hc_X7_slotFor_16 rfl) rfl) rfl) rfl
theorem dX7_slotFor_28 : decode cX7_slotFor 28 = .ok (.aload_n 0, 1) := o_42 (u1_12 hc_X7_slotFor_16 rfl) rfl
theorem dX7_slotFor_29 : decode cX7_slotFor 29 = .ok (.getfield 15, 3) := o_180 (u1_13 hc_X7_slotFor_16 rfl) (u2_d (u1_14 hc_X7_slotFor_16 rfl) (u1_15 hc_X7_slotFor_16 rfl) rfl) rfl
theorem hc_X7_slotFor_32 : ((bL cX7_slotFor).drop 32).take 18 = [42, 180, 0, 18, 28, 46, 46, 27, 160, 0, 18, 42, 42, 180, 0, 18, 28, 46] := by decide +kernel
theorem dX7_slotFor_32 : decode cX7_slotFor 32 = .ok (.aload_n 0, 1) := o_42 (u1_0 hc_X7_slotFor_32 rfl) rfl
theorem dX7_slotFor_33 : decode cX7_slotFor 33 = .ok (.getfield 18, 3) := o_180 (u1_1 hc_X7_slotFor_32 rfl) (u2_d (u1_2 hc_X7_slotFor_32 rfl) (u1_3 hc_X7_slotFor_32 rfl) rfl) rfl
theorem dX7_slotFor_36 : decode cX7_slotFor 36 = .ok (.iload_n 2, 1) := o_28 (u1_4 hc_X7_slotFor_32 rfl) rfl
theorem dX7_slotFor_37 : decode cX7_slotFor 37 = .ok (.iaload, 1) := o_46 (u1_5 hc_X7_slotFor_32 rfl) rfl
theorem dX7_slotFor_38 : decode cX7_slotFor 38 = .ok (.iaload, 1) := o_46 (u1_6 hc_X7_slotFor_32 rfl) rfl
theorem dX7_slotFor_39 : decode cX7_slotFor 39 = .ok (.iload_n 1, 1) := o_27 (u1_7 hc_X7_slotFor_32 rfl) rfl
theorem dX7_slotFor_40 : decode cX7_slotFor 40 = .ok (.if_icmp .ne 18, 3) := o_160 (u1_8 hc_X7_slotFor_32 rfl) (s2_d (u2_d (u1_9 hc_X7_slotFor_32 rfl) (u1_10 hc_X7_slotFor_32 rfl) rfl) rfl) rfl
theorem dX7_slotFor_43 : decode cX7_slotFor 43 = .ok (.aload_n 0, 1) := o_42 (u1_11 hc_X7_slotFor_32 rfl) rfl
theorem dX7_slotFor_44 : decode cX7_slotFor 44 = .ok (.aload_n 0, 1) := o_42 (u1_12 hc_X7_slotFor_32 rfl) rfl
theorem dX7_slotFor_45 : decode cX7_slotFor 45 = .ok (.getfield 18, 3) := o_180 (u1_13 hc_X7_slotFor_32 rfl) (u2_d (u1_14 hc_X7_slotFor_32 rfl) (u1_15 hc_X7_slotFor_32 rfl) rfl) rfl
theorem hc_X7_slotFor_48 : ((bL cX7_slotFor).drop 48).take 18 = [28, 46, 182, 0, 164, 153, 0, 5, 28, 172, 28, 4, 96, 17, 3, 255, 126, 61] := by decide +kernel
theorem dX7_slotFor_48 : decode cX7_slotFor 48 = .ok (.iload_n 2, 1) := o_28 (u1_0 hc_X7_slotFor_48 rfl) rfl
theorem dX7_slotFor_49 : decode cX7_slotFor 49 = .ok (.iaload, 1) := o_46 (u1_1 hc_X7_slotFor_48 rfl) rfl
theorem dX7_slotFor_50 : decode cX7_slotFor 50 = .ok (.invokevirtual 164, 3) := o_182 (u1_2 hc_X7_slotFor_48 rfl) (u2_d (u1_3 hc_X7_slotFor_48 rfl) (u1_4 hc_X7_slotFor_48 rfl) rfl) rfl
theorem dX7_slotFor_53 : decode cX7_slotFor 53 = .ok (.ifCond .eq 5, 3) := o_153 (u1_5 hc_X7_slotFor_48 rfl) (s2_d (u2_d (u1_6 hc_X7_slotFor_48 rfl) (u1_7 hc_X7_slotFor_48 rfl) rfl) rfl) rfl
theorem dX7_slotFor_56 : decode cX7_slotFor 56 = .ok (.iload_n 2, 1) := o_28 (u1_8 hc_X7_slotFor_48 rfl) rfl
theorem dX7_slotFor_57 : decode cX7_slotFor 57 = .ok (.ireturn, 1) := o_172 (u1_9 hc_X7_slotFor_48 rfl) rfl
theorem dX7_slotFor_58 : decode cX7_slotFor 58 = .ok (.iload_n 2, 1) := o_28 (u1_10 hc_X7_slotFor_48 rfl) rfl
theorem dX7_slotFor_59 : decode cX7_slotFor 59 = .ok (.iconst 1, 1) := o_4 (u1_11 hc_X7_slotFor_48 rfl) rfl
theorem dX7_slotFor_60 : decode cX7_slotFor 60 = .ok (.iadd, 1) := o_96 (u1_12 hc_X7_slotFor_48 rfl) rfl
theorem dX7_slotFor_61 : decode cX7_slotFor 61 = .ok (.sipush 1023, 3) := o_17 (u1_13 hc_X7_slotFor_48 rfl) (s2_d (u2_d (u1_14 hc_X7_slotFor_48 rfl) (u1_15 hc_X7_slotFor_48 rfl) rfl) rfl) rfl
theorem hc_X7_slotFor_64 : ((bL cX7_slotFor).drop 64).take 18 = [126, 61, 132, 3, 1, 167, 255, 197, 28, 172] := by decide +kernel
theorem dX7_slotFor_64 : decode cX7_slotFor 64 = .ok (.iand, 1) := o_126 (u1_0 hc_X7_slotFor_64 rfl) rfl
theorem dX7_slotFor_65 : decode cX7_slotFor 65 = .ok (.istore_n 2, 1) := o_61 (u1_1 hc_X7_slotFor_64 rfl) rfl
theorem dX7_slotFor_66 : decode cX7_slotFor 66 = .ok (.iinc 3 1, 3) := o_132 (u1_2 hc_X7_slotFor_64 rfl) (u1_3 hc_X7_slotFor_64 rfl) (s1_d (u1_4 hc_X7_slotFor_64 rfl) rfl) rfl
theorem dX7_slotFor_69 : decode cX7_slotFor 69 = .ok (.goto (-59), 3) := o_167 (u1_5 hc_X7_slotFor_64 rfl) (s2_d (u2_d (u1_6 hc_X7_slotFor_64 rfl) (u1_7 hc_X7_slotFor_64 rfl) rfl) rfl) rfl
theorem dX7_slotFor_72 : decode cX7_slotFor 72 = .ok (.iload_n 2, 1) := o_28 (u1_8 hc_X7_slotFor_64 rfl) rfl
theorem dX7_slotFor_73 : decode cX7_slotFor 73 = .ok (.ireturn, 1) := o_172 (u1_9 hc_X7_slotFor_64 rfl) rfl
theorem hc_X7_isScene_0 : ((bL cX7_isScene).drop 0).take 18 = [3, 61, 28, 42, 180, 0, 30, 180, 0, 125, 162, 0, 34, 42, 180, 0, 9, 27] := by decide +kernel
theorem dX7_isScene_0 : decode cX7_isScene 0 = .ok (.iconst 0, 1) := o_3 (u1_0 hc_X7_isScene_0 rfl) rfl
theorem dX7_isScene_1 : decode cX7_isScene 1 = .ok (.istore_n 2, 1) := o_61 (u1_1 hc_X7_isScene_0 rfl) rfl
theorem dX7_isScene_2 : decode cX7_isScene 2 = .ok (.iload_n 2, 1) := o_28 (u1_2 hc_X7_isScene_0 rfl) rfl
theorem dX7_isScene_3 : decode cX7_isScene 3 = .ok (.aload_n 0, 1) := o_42 (u1_3 hc_X7_isScene_0 rfl) rfl
theorem dX7_isScene_4 : decode cX7_isScene 4 = .ok (.getfield 30, 3) := o_180 (u1_4 hc_X7_isScene_0 rfl) (u2_d (u1_5 hc_X7_isScene_0 rfl) (u1_6 hc_X7_isScene_0 rfl) rfl) rfl
theorem dX7_isScene_7 : decode cX7_isScene 7 = .ok (.getfield 125, 3) := o_180 (u1_7 hc_X7_isScene_0 rfl) (u2_d (u1_8 hc_X7_isScene_0 rfl) (u1_9 hc_X7_isScene_0 rfl) rfl) rfl
theorem dX7_isScene_10 : decode cX7_isScene 10 = .ok (.if_icmp .ge 34, 3) := o_162 (u1_10 hc_X7_isScene_0 rfl) (s2_d (u2_d (u1_11 hc_X7_isScene_0 rfl) (u1_12 hc_X7_isScene_0 rfl) rfl) rfl) rfl
theorem dX7_isScene_13 : decode cX7_isScene 13 = .ok (.aload_n 0, 1) := o_42 (u1_13 hc_X7_isScene_0 rfl) rfl
theorem dX7_isScene_14 : decode cX7_isScene 14 = .ok (.getfield 9, 3) := o_180 (u1_14 hc_X7_isScene_0 rfl) (u2_d (u1_15 hc_X7_isScene_0 rfl) (u1_16 hc_X7_isScene_0 rfl) rfl) rfl
theorem hc_X7_isScene_16 : ((bL cX7_isScene).drop 16).take 18 = [9, 27, 16, 30, 104, 28, 96, 46, 42, 180, 0, 39, 180, 0, 65, 28, 46, 159] := by decide +kernel
theorem dX7_isScene_17 : decode cX7_isScene 17 = .ok (.iload_n 1, 1) := o_27 (u1_1 hc_X7_isScene_16 rfl) rfl
theorem dX7_isScene_18 : decode cX7_isScene 18 = .ok (.bipush 30, 2) := o_16 (u1_2 hc_X7_isScene_16 rfl) (s1_d (u1_3 hc_X7_isScene_16 rfl) rfl) rfl
theorem dX7_isScene_20 : decode cX7_isScene 20 = .ok (.imul, 1) := o_104 (u1_4 hc_X7_isScene_16 rfl) rfl
theorem dX7_isScene_21 : decode cX7_isScene 21 = .ok (.iload_n 2, 1) := o_28 (u1_5 hc_X7_isScene_16 rfl) rfl
theorem dX7_isScene_22 : decode cX7_isScene 22 = .ok (.iadd, 1) := o_96 (u1_6 hc_X7_isScene_16 rfl) rfl
theorem dX7_isScene_23 : decode cX7_isScene 23 = .ok (.iaload, 1) := o_46 (u1_7 hc_X7_isScene_16 rfl) rfl
theorem dX7_isScene_24 : decode cX7_isScene 24 = .ok (.aload_n 0, 1) := o_42 (u1_8 hc_X7_isScene_16 rfl) rfl
theorem dX7_isScene_25 : decode cX7_isScene 25 = .ok (.getfield 39, 3) := o_180 (u1_9 hc_X7_isScene_16 rfl) (u2_d (u1_10 hc_X7_isScene_16 rfl) (u1_11 hc_X7_isScene_16 rfl) rfl) rfl
theorem dX7_isScene_28 : decode cX7_isScene 28 = .ok (.getfield 65, 3) := o_180 (u1_12 hc_X7_isScene_16 rfl) (u2_d (u1_13 hc_X7_isScene_16 rfl) (u1_14 hc_X7_isScene_16 rfl) rfl) rfl
theorem dX7_isScene_31 : decode cX7_isScene 31 = .ok (.iload_n 2, 1) := o_28 (u1_15 hc_X7_isScene_16 rfl) rfl
theorem hc_X7_isScene_32 : ((bL cX7_isScene).drop 32).take 18 = [46, 159, 0, 5, 3, 172, 132, 2, 1, 167, 255, 217, 4, 172] := by decide +kernel
theorem dX7_isScene_32 : decode cX7_isScene 32 = .ok (.iaload, 1) := o_46 (u1_0 hc_X7_isScene_32 rfl) rfl
theorem dX7_isScene_33 : decode cX7_isScene 33 = .ok (.if_icmp .eq 5, 3) := o_159 (u1_1 hc_X7_isScene_32 rfl) (s2_d (u2_d (u1_2 hc_X7_isScene_32 rfl) (u1_3 hc_X7_isScene_32 rfl) rfl) rfl) rfl
theorem dX7_isScene_36 : decode cX7_isScene 36 = .ok (.iconst 0, 1) := o_3 (u1_4 hc_X7_isScene_32 rfl) rfl
theorem dX7_isScene_37 : decode cX7_isScene 37 = .ok (.ireturn, 1) := o_172 (u1_5 hc_X7_isScene_32 rfl) rfl
theorem dX7_isScene_38 : decode cX7_isScene 38 = .ok (.iinc 2 1, 3) := o_132 (u1_6 hc_X7_isScene_32 rfl) (u1_7 hc_X7_isScene_32 rfl) (s1_d (u1_8 hc_X7_isScene_32 rfl) rfl) rfl
theorem dX7_isScene_41 : decode cX7_isScene 41 = .ok (.goto (-39), 3) := o_167 (u1_9 hc_X7_isScene_32 rfl) (s2_d (u2_d (u1_10 hc_X7_isScene_32 rfl) (u1_11 hc_X7_isScene_32 rfl) rfl) rfl) rfl
theorem dX7_isScene_44 : decode cX7_isScene 44 = .ok (.iconst 1, 1) := o_4 (u1_12 hc_X7_isScene_32 rfl) rfl
theorem dX7_isScene_45 : decode cX7_isScene 45 = .ok (.ireturn, 1) := o_172 (u1_13 hc_X7_isScene_32 rfl) rfl
theorem hc_X7_tellPlay_0 : ((bL cX7_tellPlay).drop 0).take 18 = [42, 180, 0, 83, 16, 247, 160, 0, 10, 42, 16, 247, 181, 0, 61, 177, 42, 3] := by decide +kernel
theorem dX7_tellPlay_0 : decode cX7_tellPlay 0 = .ok (.aload_n 0, 1) := o_42 (u1_0 hc_X7_tellPlay_0 rfl) rfl
theorem dX7_tellPlay_1 : decode cX7_tellPlay 1 = .ok (.getfield 83, 3) := o_180 (u1_1 hc_X7_tellPlay_0 rfl) (u2_d (u1_2 hc_X7_tellPlay_0 rfl) (u1_3 hc_X7_tellPlay_0 rfl) rfl) rfl
theorem dX7_tellPlay_4 : decode cX7_tellPlay 4 = .ok (.bipush (-9), 2) := o_16 (u1_4 hc_X7_tellPlay_0 rfl) (s1_d (u1_5 hc_X7_tellPlay_0 rfl) rfl) rfl
theorem dX7_tellPlay_6 : decode cX7_tellPlay 6 = .ok (.if_icmp .ne 10, 3) := o_160 (u1_6 hc_X7_tellPlay_0 rfl) (s2_d (u2_d (u1_7 hc_X7_tellPlay_0 rfl) (u1_8 hc_X7_tellPlay_0 rfl) rfl) rfl) rfl
theorem dX7_tellPlay_9 : decode cX7_tellPlay 9 = .ok (.aload_n 0, 1) := o_42 (u1_9 hc_X7_tellPlay_0 rfl) rfl
theorem dX7_tellPlay_10 : decode cX7_tellPlay 10 = .ok (.bipush (-9), 2) := o_16 (u1_10 hc_X7_tellPlay_0 rfl) (s1_d (u1_11 hc_X7_tellPlay_0 rfl) rfl) rfl
theorem dX7_tellPlay_12 : decode cX7_tellPlay 12 = .ok (.putfield 61, 3) := o_181 (u1_12 hc_X7_tellPlay_0 rfl) (u2_d (u1_13 hc_X7_tellPlay_0 rfl) (u1_14 hc_X7_tellPlay_0 rfl) rfl) rfl
theorem dX7_tellPlay_15 : decode cX7_tellPlay 15 = .ok (.return_, 1) := o_177 (u1_15 hc_X7_tellPlay_0 rfl) rfl
theorem hc_X7_tellPlay_16 : ((bL cX7_tellPlay).drop 16).take 18 = [42, 3, 181, 0, 61, 42, 180, 0, 83, 60, 27, 158, 0, 33, 42, 180, 0, 61] := by decide +kernel
theorem dX7_tellPlay_16 : decode cX7_tellPlay 16 = .ok (.aload_n 0, 1) := o_42 (u1_0 hc_X7_tellPlay_16 rfl) rfl
theorem dX7_tellPlay_17 : decode cX7_tellPlay 17 = .ok (.iconst 0, 1) := o_3 (u1_1 hc_X7_tellPlay_16 rfl) rfl
theorem dX7_tellPlay_18 : decode cX7_tellPlay 18 = .ok (.putfield 61, 3) := o_181 (u1_2 hc_X7_tellPlay_16 rfl) (u2_d (u1_3 hc_X7_tellPlay_16 rfl) (u1_4 hc_X7_tellPlay_16 rfl) rfl) rfl
theorem dX7_tellPlay_21 : decode cX7_tellPlay 21 = .ok (.aload_n 0, 1) := o_42 (u1_5 hc_X7_tellPlay_16 rfl) rfl
theorem dX7_tellPlay_22 : decode cX7_tellPlay 22 = .ok (.getfield 83, 3) := o_180 (u1_6 hc_X7_tellPlay_16 rfl) (u2_d (u1_7 hc_X7_tellPlay_16 rfl) (u1_8 hc_X7_tellPlay_16 rfl) rfl) rfl
theorem dX7_tellPlay_25 : decode cX7_tellPlay 25 = .ok (.istore_n 1, 1) := o_60 (u1_9 hc_X7_tellPlay_16 rfl) rfl
theorem dX7_tellPlay_26 : decode cX7_tellPlay 26 = .ok (.iload_n 1, 1) := o_27 (u1_10 hc_X7_tellPlay_16 rfl) rfl
theorem dX7_tellPlay_27 : decode cX7_tellPlay 27 = .ok (.ifCond .le 33, 3) := o_158 (u1_11 hc_X7_tellPlay_16 rfl) (s2_d (u2_d (u1_12 hc_X7_tellPlay_16 rfl) (u1_13 hc_X7_tellPlay_16 rfl) rfl) rfl) rfl
theorem dX7_tellPlay_30 : decode cX7_tellPlay 30 = .ok (.aload_n 0, 1) := o_42 (u1_14 hc_X7_tellPlay_16 rfl) rfl
theorem dX7_tellPlay_31 : decode cX7_tellPlay 31 = .ok (.getfield 61, 3) := o_180 (u1_15 hc_X7_tellPlay_16 rfl) (u2_d (u1_16 hc_X7_tellPlay_16 rfl) (u1_17 hc_X7_tellPlay_16 rfl) rfl) rfl
theorem hc_X7_tellPlay_32 : ((bL cX7_tellPlay).drop 32).take 18 = [0, 61, 17, 1, 44, 162, 0, 23, 42, 89, 180, 0, 61, 4, 96, 181, 0, 61] := by decide +kernel
theorem dX7_tellPlay_34 : decode cX7_tellPlay 34 = .ok (.sipush 300, 3) := o_17 (u1_2 hc_X7_tellPlay_32 rfl) (s2_d (u2_d (u1_3 hc_X7_tellPlay_32 rfl) (u1_4 hc_X7_tellPlay_32 rfl) rfl) rfl) rfl
theorem dX7_tellPlay_37 : decode cX7_tellPlay 37 = .ok (.if_icmp .ge 23, 3) := o_162 (u1_5 hc_X7_tellPlay_32 rfl) (s2_d (u2_d (u1_6 hc_X7_tellPlay_32 rfl) (u1_7 hc_X7_tellPlay_32 rfl) rfl) rfl) rfl
theorem dX7_tellPlay_40 : decode cX7_tellPlay 40 = .ok (.aload_n 0, 1) := o_42 (u1_8 hc_X7_tellPlay_32 rfl) rfl
theorem dX7_tellPlay_41 : decode cX7_tellPlay 41 = .ok (.dup, 1) := o_89 (u1_9 hc_X7_tellPlay_32 rfl) rfl
theorem dX7_tellPlay_42 : decode cX7_tellPlay 42 = .ok (.getfield 61, 3) := o_180 (u1_10 hc_X7_tellPlay_32 rfl) (u2_d (u1_11 hc_X7_tellPlay_32 rfl) (u1_12 hc_X7_tellPlay_32 rfl) rfl) rfl
theorem dX7_tellPlay_45 : decode cX7_tellPlay 45 = .ok (.iconst 1, 1) := o_4 (u1_13 hc_X7_tellPlay_32 rfl) rfl
theorem dX7_tellPlay_46 : decode cX7_tellPlay 46 = .ok (.iadd, 1) := o_96 (u1_14 hc_X7_tellPlay_32 rfl) rfl
theorem dX7_tellPlay_47 : decode cX7_tellPlay 47 = .ok (.putfield 61, 3) := o_181 (u1_15 hc_X7_tellPlay_32 rfl) (u2_d (u1_16 hc_X7_tellPlay_32 rfl) (u1_17 hc_X7_tellPlay_32 rfl) rfl) rfl
theorem hc_X7_tellPlay_48 : ((bL cX7_tellPlay).drop 48).take 18 = [0, 61, 42, 180, 0, 21, 27, 46, 60, 167, 255, 225, 42, 180, 0, 83, 60, 42] := by decide +kernel
theorem dX7_tellPlay_50 : decode cX7_tellPlay 50 = .ok (.aload_n 0, 1) := o_42 (u1_2 hc_X7_tellPlay_48 rfl) rfl
theorem dX7_tellPlay_51 : decode cX7_tellPlay 51 = .ok (.getfield 21, 3) := o_180 (u1_3 hc_X7_tellPlay_48 rfl) (u2_d (u1_4 hc_X7_tellPlay_48 rfl) (u1_5 hc_X7_tellPlay_48 rfl) rfl) rfl
theorem dX7_tellPlay_54 : decode cX7_tellPlay 54 = .ok (.iload_n 1, 1) := o_27 (u1_6 hc_X7_tellPlay_48 rfl) rfl
theorem dX7_tellPlay_55 : decode cX7_tellPlay 55 = .ok (.iaload, 1) := o_46 (u1_7 hc_X7_tellPlay_48 rfl) rfl
theorem dX7_tellPlay_56 : decode cX7_tellPlay 56 = .ok (.istore_n 1, 1) := o_60 (u1_8 hc_X7_tellPlay_48 rfl) rfl
theorem dX7_tellPlay_57 : decode cX7_tellPlay 57 = .ok (.goto (-31), 3) := o_167 (u1_9 hc_X7_tellPlay_48 rfl) (s2_d (u2_d (u1_10 hc_X7_tellPlay_48 rfl) (u1_11 hc_X7_tellPlay_48 rfl) rfl) rfl) rfl
theorem dX7_tellPlay_60 : decode cX7_tellPlay 60 = .ok (.aload_n 0, 1) := o_42 (u1_12 hc_X7_tellPlay_48 rfl) rfl
theorem dX7_tellPlay_61 : decode cX7_tellPlay 61 = .ok (.getfield 83, 3) := o_180 (u1_13 hc_X7_tellPlay_48 rfl) (u2_d (u1_14 hc_X7_tellPlay_48 rfl) (u1_15 hc_X7_tellPlay_48 rfl) rfl) rfl
theorem hc_X7_tellPlay_64 : ((bL cX7_tellPlay).drop 64).take 18 = [60, 42, 180, 0, 61, 4, 100, 61, 28, 155, 0, 32, 27, 158, 0, 28, 42, 180] := by decide +kernel
theorem dX7_tellPlay_64 : decode cX7_tellPlay 64 = .ok (.istore_n 1, 1) := o_60 (u1_0 hc_X7_tellPlay_64 rfl) rfl
theorem dX7_tellPlay_65 : decode cX7_tellPlay 65 = .ok (.aload_n 0, 1) := o_42 (u1_1 hc_X7_tellPlay_64 rfl) rfl
theorem dX7_tellPlay_66 : decode cX7_tellPlay 66 = .ok (.getfield 61, 3) := o_180 (u1_2 hc_X7_tellPlay_64 rfl) (u2_d (u1_3 hc_X7_tellPlay_64 rfl) (u1_4 hc_X7_tellPlay_64 rfl) rfl) rfl
theorem dX7_tellPlay_69 : decode cX7_tellPlay 69 = .ok (.iconst 1, 1) := o_4 (u1_5 hc_X7_tellPlay_64 rfl) rfl
theorem dX7_tellPlay_70 : decode cX7_tellPlay 70 = .ok (.isub, 1) := o_100 (u1_6 hc_X7_tellPlay_64 rfl) rfl
theorem dX7_tellPlay_71 : decode cX7_tellPlay 71 = .ok (.istore_n 2, 1) := o_61 (u1_7 hc_X7_tellPlay_64 rfl) rfl
theorem dX7_tellPlay_72 : decode cX7_tellPlay 72 = .ok (.iload_n 2, 1) := o_28 (u1_8 hc_X7_tellPlay_64 rfl) rfl
theorem dX7_tellPlay_73 : decode cX7_tellPlay 73 = .ok (.ifCond .lt 32, 3) := o_155 (u1_9 hc_X7_tellPlay_64 rfl) (s2_d (u2_d (u1_10 hc_X7_tellPlay_64 rfl) (u1_11 hc_X7_tellPlay_64 rfl) rfl) rfl) rfl
theorem dX7_tellPlay_76 : decode cX7_tellPlay 76 = .ok (.iload_n 1, 1) := o_27 (u1_12 hc_X7_tellPlay_64 rfl) rfl
theorem dX7_tellPlay_77 : decode cX7_tellPlay 77 = .ok (.ifCond .le 28, 3) := o_158 (u1_13 hc_X7_tellPlay_64 rfl) (s2_d (u2_d (u1_14 hc_X7_tellPlay_64 rfl) (u1_15 hc_X7_tellPlay_64 rfl) rfl) rfl) rfl
theorem hc_X7_tellPlay_80 : ((bL cX7_tellPlay).drop 80).take 18 = [42, 180, 0, 27, 28, 42, 180, 0, 24, 27, 46, 79, 42, 180, 0, 21, 27, 46] := by decide +kernel
theorem dX7_tellPlay_80 : decode cX7_tellPlay 80 = .ok (.aload_n 0, 1) := o_42 (u1_0 hc_X7_tellPlay_80 rfl) rfl
theorem dX7_tellPlay_81 : decode cX7_tellPlay 81 = .ok (.getfield 27, 3) := o_180 (u1_1 hc_X7_tellPlay_80 rfl) (u2_d (u1_2 hc_X7_tellPlay_80 rfl) (u1_3 hc_X7_tellPlay_80 rfl) rfl) rfl
theorem dX7_tellPlay_84 : decode cX7_tellPlay 84 = .ok (.iload_n 2, 1) := o_28 (u1_4 hc_X7_tellPlay_80 rfl) rfl
theorem dX7_tellPlay_85 : decode cX7_tellPlay 85 = .ok (.aload_n 0, 1) := o_42 (u1_5 hc_X7_tellPlay_80 rfl) rfl
theorem dX7_tellPlay_86 : decode cX7_tellPlay 86 = .ok (.getfield 24, 3) := o_180 (u1_6 hc_X7_tellPlay_80 rfl) (u2_d (u1_7 hc_X7_tellPlay_80 rfl) (u1_8 hc_X7_tellPlay_80 rfl) rfl) rfl
theorem dX7_tellPlay_89 : decode cX7_tellPlay 89 = .ok (.iload_n 1, 1) := o_27 (u1_9 hc_X7_tellPlay_80 rfl) rfl
theorem dX7_tellPlay_90 : decode cX7_tellPlay 90 = .ok (.iaload, 1) := o_46 (u1_10 hc_X7_tellPlay_80 rfl) rfl
theorem dX7_tellPlay_91 : decode cX7_tellPlay 91 = .ok (.iastore, 1) := o_79 (u1_11 hc_X7_tellPlay_80 rfl) rfl
theorem dX7_tellPlay_92 : decode cX7_tellPlay 92 = .ok (.aload_n 0, 1) := o_42 (u1_12 hc_X7_tellPlay_80 rfl) rfl
theorem dX7_tellPlay_93 : decode cX7_tellPlay 93 = .ok (.getfield 21, 3) := o_180 (u1_13 hc_X7_tellPlay_80 rfl) (u2_d (u1_14 hc_X7_tellPlay_80 rfl) (u1_15 hc_X7_tellPlay_80 rfl) rfl) rfl
theorem hc_X7_tellPlay_96 : ((bL cX7_tellPlay).drop 96).take 18 = [27, 46, 60, 132, 2, 255, 167, 255, 226, 177] := by decide +kernel
theorem dX7_tellPlay_96 : decode cX7_tellPlay 96 = .ok (.iload_n 1, 1) := o_27 (u1_0 hc_X7_tellPlay_96 rfl) rfl
theorem dX7_tellPlay_97 : decode cX7_tellPlay 97 = .ok (.iaload, 1) := o_46 (u1_1 hc_X7_tellPlay_96 rfl) rfl
theorem dX7_tellPlay_98 : decode cX7_tellPlay 98 = .ok (.istore_n 1, 1) := o_60 (u1_2 hc_X7_tellPlay_96 rfl) rfl
theorem dX7_tellPlay_99 : decode cX7_tellPlay 99 = .ok (.iinc 2 (-1), 3) := o_132 (u1_3 hc_X7_tellPlay_96 rfl) (u1_4 hc_X7_tellPlay_96 rfl) (s1_d (u1_5 hc_X7_tellPlay_96 rfl) rfl) rfl
theorem dX7_tellPlay_102 : decode cX7_tellPlay 102 = .ok (.goto (-30), 3) := o_167 (u1_6 hc_X7_tellPlay_96 rfl) (s2_d (u2_d (u1_7 hc_X7_tellPlay_96 rfl) (u1_8 hc_X7_tellPlay_96 rfl) rfl) rfl) rfl
theorem dX7_tellPlay_105 : decode cX7_tellPlay 105 = .ok (.return_, 1) := o_177 (u1_9 hc_X7_tellPlay_96 rfl) rfl
theorem hc_X8_init_0 : ((bL cX8_init).drop 0).take 18 = [42, 183, 0, 3, 42, 16, 30, 188, 4, 181, 0, 9, 42, 16, 30, 188, 4, 181] := by decide +kernel
theorem dX8_init_0 : decode cX8_init 0 = .ok (.aload_n 0, 1) := o_42 (u1_0 hc_X8_init_0 rfl) rfl
theorem dX8_init_1 : decode cX8_init 1 = .ok (.invokespecial 3, 3) := o_183 (u1_1 hc_X8_init_0 rfl) (u2_d (u1_2 hc_X8_init_0 rfl) (u1_3 hc_X8_init_0 rfl) rfl) rfl
theorem dX8_init_4 : decode cX8_init 4 = .ok (.aload_n 0, 1) := o_42 (u1_4 hc_X8_init_0 rfl) rfl
theorem dX8_init_5 : decode cX8_init 5 = .ok (.bipush 30, 2) := o_16 (u1_5 hc_X8_init_0 rfl) (s1_d (u1_6 hc_X8_init_0 rfl) rfl) rfl
theorem dX8_init_7 : decode cX8_init 7 = .ok (.newarray .boolean, 2) := o_188_4 (u1_7 hc_X8_init_0 rfl) (u1_8 hc_X8_init_0 rfl) rfl
theorem dX8_init_9 : decode cX8_init 9 = .ok (.putfield 9, 3) := o_181 (u1_9 hc_X8_init_0 rfl) (u2_d (u1_10 hc_X8_init_0 rfl) (u1_11 hc_X8_init_0 rfl) rfl) rfl
theorem dX8_init_12 : decode cX8_init 12 = .ok (.aload_n 0, 1) := o_42 (u1_12 hc_X8_init_0 rfl) rfl
theorem dX8_init_13 : decode cX8_init 13 = .ok (.bipush 30, 2) := o_16 (u1_13 hc_X8_init_0 rfl) (s1_d (u1_14 hc_X8_init_0 rfl) rfl) rfl
theorem dX8_init_15 : decode cX8_init 15 = .ok (.newarray .boolean, 2) := o_188_4 (u1_15 hc_X8_init_0 rfl) (u1_16 hc_X8_init_0 rfl) rfl
theorem hc_X8_init_16 : ((bL cX8_init).drop 16).take 18 = [4, 181, 0, 15, 42, 43, 181, 0, 18, 42, 44, 181, 0, 22, 42, 45, 181, 0] := by decide +kernel
theorem dX8_init_17 : decode cX8_init 17 = .ok (.putfield 15, 3) := o_181 (u1_1 hc_X8_init_16 rfl) (u2_d (u1_2 hc_X8_init_16 rfl) (u1_3 hc_X8_init_16 rfl) rfl) rfl
theorem dX8_init_20 : decode cX8_init 20 = .ok (.aload_n 0, 1) := o_42 (u1_4 hc_X8_init_16 rfl) rfl
theorem dX8_init_21 : decode cX8_init 21 = .ok (.aload_n 1, 1) := o_43 (u1_5 hc_X8_init_16 rfl) rfl
theorem dX8_init_22 : decode cX8_init 22 = .ok (.putfield 18, 3) := o_181 (u1_6 hc_X8_init_16 rfl) (u2_d (u1_7 hc_X8_init_16 rfl) (u1_8 hc_X8_init_16 rfl) rfl) rfl
theorem dX8_init_25 : decode cX8_init 25 = .ok (.aload_n 0, 1) := o_42 (u1_9 hc_X8_init_16 rfl) rfl
theorem dX8_init_26 : decode cX8_init 26 = .ok (.aload_n 2, 1) := o_44 (u1_10 hc_X8_init_16 rfl) rfl
theorem dX8_init_27 : decode cX8_init 27 = .ok (.putfield 22, 3) := o_181 (u1_11 hc_X8_init_16 rfl) (u2_d (u1_12 hc_X8_init_16 rfl) (u1_13 hc_X8_init_16 rfl) rfl) rfl
theorem dX8_init_30 : decode cX8_init 30 = .ok (.aload_n 0, 1) := o_42 (u1_14 hc_X8_init_16 rfl) rfl
theorem dX8_init_31 : decode cX8_init 31 = .ok (.aload_n 3, 1) := o_45 (u1_15 hc_X8_init_16 rfl) rfl
theorem hc_X8_init_32 : ((bL cX8_init).drop 32).take 18 = [181, 0, 26, 177] := by decide +kernel
theorem dX8_init_32 : decode cX8_init 32 = .ok (.putfield 26, 3) := o_181 (u1_0 hc_X8_init_32 rfl) (u2_d (u1_1 hc_X8_init_32 rfl) (u1_2 hc_X8_init_32 rfl) rfl) rfl
theorem dX8_init_35 : decode cX8_init 35 = .ok (.return_, 1) := o_177 (u1_3 hc_X8_init_32 rfl) rfl
theorem hc_X8_look_0 : ((bL cX8_look).drop 0).take 18 = [42, 27, 3, 182, 0, 30, 61, 42, 27, 4, 182, 0, 30, 62, 42, 42, 180, 0] := by decide +kernel
theorem dX8_look_0 : decode cX8_look 0 = .ok (.aload_n 0, 1) := o_42 (u1_0 hc_X8_look_0 rfl) rfl
theorem dX8_look_1 : decode cX8_look 1 = .ok (.iload_n 1, 1) := o_27 (u1_1 hc_X8_look_0 rfl) rfl
theorem dX8_look_2 : decode cX8_look 2 = .ok (.iconst 0, 1) := o_3 (u1_2 hc_X8_look_0 rfl) rfl
theorem dX8_look_3 : decode cX8_look 3 = .ok (.invokevirtual 30, 3) := o_182 (u1_3 hc_X8_look_0 rfl) (u2_d (u1_4 hc_X8_look_0 rfl) (u1_5 hc_X8_look_0 rfl) rfl) rfl
theorem dX8_look_6 : decode cX8_look 6 = .ok (.istore_n 2, 1) := o_61 (u1_6 hc_X8_look_0 rfl) rfl
theorem dX8_look_7 : decode cX8_look 7 = .ok (.aload_n 0, 1) := o_42 (u1_7 hc_X8_look_0 rfl) rfl
theorem dX8_look_8 : decode cX8_look 8 = .ok (.iload_n 1, 1) := o_27 (u1_8 hc_X8_look_0 rfl) rfl
theorem dX8_look_9 : decode cX8_look 9 = .ok (.iconst 1, 1) := o_4 (u1_9 hc_X8_look_0 rfl) rfl
theorem dX8_look_10 : decode cX8_look 10 = .ok (.invokevirtual 30, 3) := o_182 (u1_10 hc_X8_look_0 rfl) (u2_d (u1_11 hc_X8_look_0 rfl) (u1_12 hc_X8_look_0 rfl) rfl) rfl
theorem dX8_look_13 : decode cX8_look 13 = .ok (.istore_n 3, 1) := o_62 (u1_13 hc_X8_look_0 rfl) rfl
theorem dX8_look_14 : decode cX8_look 14 = .ok (.aload_n 0, 1) := o_42 (u1_14 hc_X8_look_0 rfl) rfl
theorem dX8_look_15 : decode cX8_look 15 = .ok (.aload_n 0, 1) := o_42 (u1_15 hc_X8_look_0 rfl) rfl
theorem hc_X8_look_16 : ((bL cX8_look).drop 16).take 18 = [180, 0, 18, 28, 182, 0, 34, 154, 0, 19, 42, 180, 0, 26, 28, 5, 182, 0] := by decide +kernel
theorem dX8_look_16 : decode cX8_look 16 = .ok (.getfield 18, 3) := o_180 (u1_0 hc_X8_look_16 rfl) (u2_d (u1_1 hc_X8_look_16 rfl) (u1_2 hc_X8_look_16 rfl) rfl) rfl
theorem dX8_look_19 : decode cX8_look 19 = .ok (.iload_n 2, 1) := o_28 (u1_3 hc_X8_look_16 rfl) rfl
theorem dX8_look_20 : decode cX8_look 20 = .ok (.invokevirtual 34, 3) := o_182 (u1_4 hc_X8_look_16 rfl) (u2_d (u1_5 hc_X8_look_16 rfl) (u1_6 hc_X8_look_16 rfl) rfl) rfl
theorem dX8_look_23 : decode cX8_look 23 = .ok (.ifCond .ne 19, 3) := o_154 (u1_7 hc_X8_look_16 rfl) (s2_d (u2_d (u1_8 hc_X8_look_16 rfl) (u1_9 hc_X8_look_16 rfl) rfl) rfl) rfl
theorem dX8_look_26 : decode cX8_look 26 = .ok (.aload_n 0, 1) := o_42 (u1_10 hc_X8_look_16 rfl) rfl
theorem dX8_look_27 : decode cX8_look 27 = .ok (.getfield 26, 3) := o_180 (u1_11 hc_X8_look_16 rfl) (u2_d (u1_12 hc_X8_look_16 rfl) (u1_13 hc_X8_look_16 rfl) rfl) rfl
theorem dX8_look_30 : decode cX8_look 30 = .ok (.iload_n 2, 1) := o_28 (u1_14 hc_X8_look_16 rfl) rfl
theorem dX8_look_31 : decode cX8_look 31 = .ok (.iconst 2, 1) := o_5 (u1_15 hc_X8_look_16 rfl) rfl
theorem hc_X8_look_32 : ((bL cX8_look).drop 32).take 18 = [182, 0, 40, 153, 0, 7, 4, 167, 0, 4, 3, 181, 0, 46, 3, 54, 4, 21] := by decide +kernel
theorem dX8_look_32 : decode cX8_look 32 = .ok (.invokevirtual 40, 3) := o_182 (u1_0 hc_X8_look_32 rfl) (u2_d (u1_1 hc_X8_look_32 rfl) (u1_2 hc_X8_look_32 rfl) rfl) rfl
theorem dX8_look_35 : decode cX8_look 35 = .ok (.ifCond .eq 7, 3) := o_153 (u1_3 hc_X8_look_32 rfl) (s2_d (u2_d (u1_4 hc_X8_look_32 rfl) (u1_5 hc_X8_look_32 rfl) rfl) rfl) rfl
theorem dX8_look_38 : decode cX8_look 38 = .ok (.iconst 1, 1) := o_4 (u1_6 hc_X8_look_32 rfl) rfl
theorem dX8_look_39 : decode cX8_look 39 = .ok (.goto 4, 3) := o_167 (u1_7 hc_X8_look_32 rfl) (s2_d (u2_d (u1_8 hc_X8_look_32 rfl) (u1_9 hc_X8_look_32 rfl) rfl) rfl) rfl
theorem dX8_look_42 : decode cX8_look 42 = .ok (.iconst 0, 1) := o_3 (u1_10 hc_X8_look_32 rfl) rfl
theorem dX8_look_43 : decode cX8_look 43 = .ok (.putfield 46, 3) := o_181 (u1_11 hc_X8_look_32 rfl) (u2_d (u1_12 hc_X8_look_32 rfl) (u1_13 hc_X8_look_32 rfl) rfl) rfl
theorem dX8_look_46 : decode cX8_look 46 = .ok (.iconst 0, 1) := o_3 (u1_14 hc_X8_look_32 rfl) rfl
theorem dX8_look_47 : decode cX8_look 47 = .ok (.istore 4, 2) := o_54 (u1_15 hc_X8_look_32 rfl) (u1_16 hc_X8_look_32 rfl) rfl
theorem hc_X8_look_48 : ((bL cX8_look).drop 48).take 18 = [4, 21, 4, 42, 180, 0, 18, 180, 0, 50, 162, 0, 77, 42, 180, 0, 9, 21] := by decide +kernel
theorem dX8_look_49 : decode cX8_look 49 = .ok (.iload 4, 2) := o_21 (u1_1 hc_X8_look_48 rfl) (u1_2 hc_X8_look_48 rfl) rfl
theorem dX8_look_51 : decode cX8_look 51 = .ok (.aload_n 0, 1) := o_42 (u1_3 hc_X8_look_48 rfl) rfl
theorem dX8_look_52 : decode cX8_look 52 = .ok (.getfield 18, 3) := o_180 (u1_4 hc_X8_look_48 rfl) (u2_d (u1_5 hc_X8_look_48 rfl) (u1_6 hc_X8_look_48 rfl) rfl) rfl
theorem dX8_look_55 : decode cX8_look 55 = .ok (.getfield 50, 3) := o_180 (u1_7 hc_X8_look_48 rfl) (u2_d (u1_8 hc_X8_look_48 rfl) (u1_9 hc_X8_look_48 rfl) rfl) rfl
theorem dX8_look_58 : decode cX8_look 58 = .ok (.if_icmp .ge 77, 3) := o_162 (u1_10 hc_X8_look_48 rfl) (s2_d (u2_d (u1_11 hc_X8_look_48 rfl) (u1_12 hc_X8_look_48 rfl) rfl) rfl) rfl
theorem dX8_look_61 : decode cX8_look 61 = .ok (.aload_n 0, 1) := o_42 (u1_13 hc_X8_look_48 rfl) rfl
theorem dX8_look_62 : decode cX8_look 62 = .ok (.getfield 9, 3) := o_180 (u1_14 hc_X8_look_48 rfl) (u2_d (u1_15 hc_X8_look_48 rfl) (u1_16 hc_X8_look_48 rfl) rfl) rfl
theorem hc_X8_look_64 : ((bL cX8_look).drop 64).take 18 = [9, 21, 4, 21, 4, 27, 159, 0, 14, 42, 21, 4, 28, 3, 182, 0, 54, 153] := by decide +kernel
theorem dX8_look_65 : decode cX8_look 65 = .ok (.iload 4, 2) := o_21 (u1_1 hc_X8_look_64 rfl) (u1_2 hc_X8_look_64 rfl) rfl
theorem dX8_look_67 : decode cX8_look 67 = .ok (.iload 4, 2) := o_21 (u1_3 hc_X8_look_64 rfl) (u1_4 hc_X8_look_64 rfl) rfl
theorem dX8_look_69 : decode cX8_look 69 = .ok (.iload_n 1, 1) := o_27 (u1_5 hc_X8_look_64 rfl) rfl
theorem dX8_look_70 : decode cX8_look 70 = .ok (.if_icmp .eq 14, 3) := o_159 (u1_6 hc_X8_look_64 rfl) (s2_d (u2_d (u1_7 hc_X8_look_64 rfl) (u1_8 hc_X8_look_64 rfl) rfl) rfl) rfl
theorem dX8_look_73 : decode cX8_look 73 = .ok (.aload_n 0, 1) := o_42 (u1_9 hc_X8_look_64 rfl) rfl
theorem dX8_look_74 : decode cX8_look 74 = .ok (.iload 4, 2) := o_21 (u1_10 hc_X8_look_64 rfl) (u1_11 hc_X8_look_64 rfl) rfl
theorem dX8_look_76 : decode cX8_look 76 = .ok (.iload_n 2, 1) := o_28 (u1_12 hc_X8_look_64 rfl) rfl
theorem dX8_look_77 : decode cX8_look 77 = .ok (.iconst 0, 1) := o_3 (u1_13 hc_X8_look_64 rfl) rfl
theorem dX8_look_78 : decode cX8_look 78 = .ok (.invokevirtual 54, 3) := o_182 (u1_14 hc_X8_look_64 rfl) (u2_d (u1_15 hc_X8_look_64 rfl) (u1_16 hc_X8_look_64 rfl) rfl) rfl
theorem hc_X8_look_80 : ((bL cX8_look).drop 80).take 18 = [54, 153, 0, 7, 4, 167, 0, 4, 3, 84, 42, 42, 180, 0, 46, 154, 0, 26] := by decide +kernel
theorem dX8_look_81 : decode cX8_look 81 = .ok (.ifCond .eq 7, 3) := o_153 (u1_1 hc_X8_look_80 rfl) (s2_d (u2_d (u1_2 hc_X8_look_80 rfl) (u1_3 hc_X8_look_80 rfl) rfl) rfl) rfl
theorem dX8_look_84 : decode cX8_look 84 = .ok (.iconst 1, 1) := o_4 (u1_4 hc_X8_look_80 rfl) rfl
theorem dX8_look_85 : decode cX8_look 85 = .ok (.goto 4, 3) := o_167 (u1_5 hc_X8_look_80 rfl) (s2_d (u2_d (u1_6 hc_X8_look_80 rfl) (u1_7 hc_X8_look_80 rfl) rfl) rfl) rfl
theorem dX8_look_88 : decode cX8_look 88 = .ok (.iconst 0, 1) := o_3 (u1_8 hc_X8_look_80 rfl) rfl
theorem dX8_look_89 : decode cX8_look 89 = .ok (.bastore, 1) := o_84 (u1_9 hc_X8_look_80 rfl) rfl
theorem dX8_look_90 : decode cX8_look 90 = .ok (.aload_n 0, 1) := o_42 (u1_10 hc_X8_look_80 rfl) rfl
theorem dX8_look_91 : decode cX8_look 91 = .ok (.aload_n 0, 1) := o_42 (u1_11 hc_X8_look_80 rfl) rfl
theorem dX8_look_92 : decode cX8_look 92 = .ok (.getfield 46, 3) := o_180 (u1_12 hc_X8_look_80 rfl) (u2_d (u1_13 hc_X8_look_80 rfl) (u1_14 hc_X8_look_80 rfl) rfl) rfl
theorem dX8_look_95 : decode cX8_look 95 = .ok (.ifCond .ne 26, 3) := o_154 (u1_15 hc_X8_look_80 rfl) (s2_d (u2_d (u1_16 hc_X8_look_80 rfl) (u1_17 hc_X8_look_80 rfl) rfl) rfl) rfl
theorem hc_X8_look_96 : ((bL cX8_look).drop 96).take 18 = [0, 26, 42, 180, 0, 9, 21, 4, 51, 153, 0, 20, 42, 180, 0, 26, 21, 4] := by decide +kernel
theorem dX8_look_98 : decode cX8_look 98 = .ok (.aload_n 0, 1) := o_42 (u1_2 hc_X8_look_96 rfl) rfl
theorem dX8_look_99 : decode cX8_look 99 = .ok (.getfield 9, 3) := o_180 (u1_3 hc_X8_look_96 rfl) (u2_d (u1_4 hc_X8_look_96 rfl) (u1_5 hc_X8_look_96 rfl) rfl) rfl
theorem dX8_look_102 : decode cX8_look 102 = .ok (.iload 4, 2) := o_21 (u1_6 hc_X8_look_96 rfl) (u1_7 hc_X8_look_96 rfl) rfl
theorem dX8_look_104 : decode cX8_look 104 = .ok (.baload, 1) := o_51 (u1_8 hc_X8_look_96 rfl) rfl
theorem dX8_look_105 : decode cX8_look 105 = .ok (.ifCond .eq 20, 3) := o_153 (u1_9 hc_X8_look_96 rfl) (s2_d (u2_d (u1_10 hc_X8_look_96 rfl) (u1_11 hc_X8_look_96 rfl) rfl) rfl) rfl
theorem dX8_look_108 : decode cX8_look 108 = .ok (.aload_n 0, 1) := o_42 (u1_12 hc_X8_look_96 rfl) rfl
theorem dX8_look_109 : decode cX8_look 109 = .ok (.getfield 26, 3) := o_180 (u1_13 hc_X8_look_96 rfl) (u2_d (u1_14 hc_X8_look_96 rfl) (u1_15 hc_X8_look_96 rfl) rfl) rfl
theorem hc_X8_look_112 : ((bL cX8_look).drop 112).take 18 = [21, 4, 5, 182, 0, 40, 153, 0, 7, 4, 167, 0, 4, 3, 181, 0, 46, 132] := by decide +kernel
theorem dX8_look_112 : decode cX8_look 112 = .ok (.iload 4, 2) := o_21 (u1_0 hc_X8_look_112 rfl) (u1_1 hc_X8_look_112 rfl) rfl
theorem dX8_look_114 : decode cX8_look 114 = .ok (.iconst 2, 1) := o_5 (u1_2 hc_X8_look_112 rfl) rfl
theorem dX8_look_115 : decode cX8_look 115 = .ok (.invokevirtual 40, 3) := o_182 (u1_3 hc_X8_look_112 rfl) (u2_d (u1_4 hc_X8_look_112 rfl) (u1_5 hc_X8_look_112 rfl) rfl) rfl
theorem dX8_look_118 : decode cX8_look 118 = .ok (.ifCond .eq 7, 3) := o_153 (u1_6 hc_X8_look_112 rfl) (s2_d (u2_d (u1_7 hc_X8_look_112 rfl) (u1_8 hc_X8_look_112 rfl) rfl) rfl) rfl
theorem dX8_look_121 : decode cX8_look 121 = .ok (.iconst 1, 1) := o_4 (u1_9 hc_X8_look_112 rfl) rfl
theorem dX8_look_122 : decode cX8_look 122 = .ok (.goto 4, 3) := o_167 (u1_10 hc_X8_look_112 rfl) (s2_d (u2_d (u1_11 hc_X8_look_112 rfl) (u1_12 hc_X8_look_112 rfl) rfl) rfl) rfl
theorem dX8_look_125 : decode cX8_look 125 = .ok (.iconst 0, 1) := o_3 (u1_13 hc_X8_look_112 rfl) rfl
theorem dX8_look_126 : decode cX8_look 126 = .ok (.putfield 46, 3) := o_181 (u1_14 hc_X8_look_112 rfl) (u2_d (u1_15 hc_X8_look_112 rfl) (u1_16 hc_X8_look_112 rfl) rfl) rfl
theorem hc_X8_look_128 : ((bL cX8_look).drop 128).take 18 = [46, 132, 4, 1, 167, 255, 173, 3, 54, 4, 21, 4, 42, 180, 0, 18, 180, 0] := by decide +kernel
theorem dX8_look_129 : decode cX8_look 129 = .ok (.iinc 4 1, 3) := o_132 (u1_1 hc_X8_look_128 rfl) (u1_2 hc_X8_look_128 rfl) (s1_d (u1_3 hc_X8_look_128 rfl) rfl) rfl
theorem dX8_look_132 : decode cX8_look 132 = .ok (.goto (-83), 3) := o_167 (u1_4 hc_X8_look_128 rfl) (s2_d (u2_d (u1_5 hc_X8_look_128 rfl) (u1_6 hc_X8_look_128 rfl) rfl) rfl) rfl
theorem dX8_look_135 : decode cX8_look 135 = .ok (.iconst 0, 1) := o_3 (u1_7 hc_X8_look_128 rfl) rfl
theorem dX8_look_136 : decode cX8_look 136 = .ok (.istore 4, 2) := o_54 (u1_8 hc_X8_look_128 rfl) (u1_9 hc_X8_look_128 rfl) rfl
theorem dX8_look_138 : decode cX8_look 138 = .ok (.iload 4, 2) := o_21 (u1_10 hc_X8_look_128 rfl) (u1_11 hc_X8_look_128 rfl) rfl
theorem dX8_look_140 : decode cX8_look 140 = .ok (.aload_n 0, 1) := o_42 (u1_12 hc_X8_look_128 rfl) rfl
theorem dX8_look_141 : decode cX8_look 141 = .ok (.getfield 18, 3) := o_180 (u1_13 hc_X8_look_128 rfl) (u2_d (u1_14 hc_X8_look_128 rfl) (u1_15 hc_X8_look_128 rfl) rfl) rfl
theorem hc_X8_look_144 : ((bL cX8_look).drop 144).take 18 = [180, 0, 50, 162, 0, 117, 42, 180, 0, 26, 21, 4, 5, 27, 182, 0, 58, 154] := by decide +kernel
theorem dX8_look_144 : decode cX8_look 144 = .ok (.getfield 50, 3) := o_180 (u1_0 hc_X8_look_144 rfl) (u2_d (u1_1 hc_X8_look_144 rfl) (u1_2 hc_X8_look_144 rfl) rfl) rfl
theorem dX8_look_147 : decode cX8_look 147 = .ok (.if_icmp .ge 117, 3) := o_162 (u1_3 hc_X8_look_144 rfl) (s2_d (u2_d (u1_4 hc_X8_look_144 rfl) (u1_5 hc_X8_look_144 rfl) rfl) rfl) rfl
theorem dX8_look_150 : decode cX8_look 150 = .ok (.aload_n 0, 1) := o_42 (u1_6 hc_X8_look_144 rfl) rfl
theorem dX8_look_151 : decode cX8_look 151 = .ok (.getfield 26, 3) := o_180 (u1_7 hc_X8_look_144 rfl) (u2_d (u1_8 hc_X8_look_144 rfl) (u1_9 hc_X8_look_144 rfl) rfl) rfl
theorem dX8_look_154 : decode cX8_look 154 = .ok (.iload 4, 2) := o_21 (u1_10 hc_X8_look_144 rfl) (u1_11 hc_X8_look_144 rfl) rfl
theorem dX8_look_156 : decode cX8_look 156 = .ok (.iconst 2, 1) := o_5 (u1_12 hc_X8_look_144 rfl) rfl
theorem dX8_look_157 : decode cX8_look 157 = .ok (.iload_n 1, 1) := o_27 (u1_13 hc_X8_look_144 rfl) rfl
theorem dX8_look_158 : decode cX8_look 158 = .ok (.invokevirtual 58, 3) := o_182 (u1_14 hc_X8_look_144 rfl) (u2_d (u1_15 hc_X8_look_144 rfl) (u1_16 hc_X8_look_144 rfl) rfl) rfl
theorem hc_X8_look_160 : ((bL cX8_look).drop 160).take 18 = [58, 154, 0, 17, 42, 180, 0, 26, 21, 4, 6, 27, 182, 0, 58, 153, 0, 7] := by decide +kernel
theorem dX8_look_161 : decode cX8_look 161 = .ok (.ifCond .ne 17, 3) := o_154 (u1_1 hc_X8_look_160 rfl) (s2_d (u2_d (u1_2 hc_X8_look_160 rfl) (u1_3 hc_X8_look_160 rfl) rfl) rfl) rfl
theorem dX8_look_164 : decode cX8_look 164 = .ok (.aload_n 0, 1) := o_42 (u1_4 hc_X8_look_160 rfl) rfl
theorem dX8_look_165 : decode cX8_look 165 = .ok (.getfield 26, 3) := o_180 (u1_5 hc_X8_look_160 rfl) (u2_d (u1_6 hc_X8_look_160 rfl) (u1_7 hc_X8_look_160 rfl) rfl) rfl
theorem dX8_look_168 : decode cX8_look 168 = .ok (.iload 4, 2) := o_21 (u1_8 hc_X8_look_160 rfl) (u1_9 hc_X8_look_160 rfl) rfl
theorem dX8_look_170 : decode cX8_look 170 = .ok (.iconst 3, 1) := o_6 (u1_10 hc_X8_look_160 rfl) rfl
theorem dX8_look_171 : decode cX8_look 171 = .ok (.iload_n 1, 1) := o_27 (u1_11 hc_X8_look_160 rfl) rfl
theorem dX8_look_172 : decode cX8_look 172 = .ok (.invokevirtual 58, 3) := o_182 (u1_12 hc_X8_look_160 rfl) (u2_d (u1_13 hc_X8_look_160 rfl) (u1_14 hc_X8_look_160 rfl) rfl) rfl
theorem dX8_look_175 : decode cX8_look 175 = .ok (.ifCond .eq 7, 3) := o_153 (u1_15 hc_X8_look_160 rfl) (s2_d (u2_d (u1_16 hc_X8_look_160 rfl) (u1_17 hc_X8_look_160 rfl) rfl) rfl) rfl
theorem hc_X8_look_176 : ((bL cX8_look).drop 176).take 18 = [0, 7, 4, 167, 0, 4, 3, 54, 5, 42, 180, 0, 9, 21, 4, 21, 5, 154] := by decide +kernel
theorem dX8_look_178 : decode cX8_look 178 = .ok (.iconst 1, 1) := o_4 (u1_2 hc_X8_look_176 rfl) rfl
theorem dX8_look_179 : decode cX8_look 179 = .ok (.goto 4, 3) := o_167 (u1_3 hc_X8_look_176 rfl) (s2_d (u2_d (u1_4 hc_X8_look_176 rfl) (u1_5 hc_X8_look_176 rfl) rfl) rfl) rfl
theorem dX8_look_182 : decode cX8_look 182 = .ok (.iconst 0, 1) := o_3 (u1_6 hc_X8_look_176 rfl) rfl
theorem dX8_look_183 : decode cX8_look 183 = .ok (.istore 5, 2) := o_54 (u1_7 hc_X8_look_176 rfl) (u1_8 hc_X8_look_176 rfl) rfl
theorem dX8_look_185 : decode cX8_look 185 = .ok (.aload_n 0, 1) := o_42 (u1_9 hc_X8_look_176 rfl) rfl
theorem dX8_look_186 : decode cX8_look 186 = .ok (.getfield 9, 3) := o_180 (u1_10 hc_X8_look_176 rfl) (u2_d (u1_11 hc_X8_look_176 rfl) (u1_12 hc_X8_look_176 rfl) rfl) rfl
theorem dX8_look_189 : decode cX8_look 189 = .ok (.iload 4, 2) := o_21 (u1_13 hc_X8_look_176 rfl) (u1_14 hc_X8_look_176 rfl) rfl
theorem dX8_look_191 : decode cX8_look 191 = .ok (.iload 5, 2) := o_21 (u1_15 hc_X8_look_176 rfl) (u1_16 hc_X8_look_176 rfl) rfl
theorem hc_X8_look_192 : ((bL cX8_look).drop 192).take 18 = [5, 154, 0, 20, 42, 180, 0, 46, 153, 0, 17, 42, 180, 0, 9, 21, 4, 51] := by decide +kernel
theorem dX8_look_193 : decode cX8_look 193 = .ok (.ifCond .ne 20, 3) := o_154 (u1_1 hc_X8_look_192 rfl) (s2_d (u2_d (u1_2 hc_X8_look_192 rfl) (u1_3 hc_X8_look_192 rfl) rfl) rfl) rfl
theorem dX8_look_196 : decode cX8_look 196 = .ok (.aload_n 0, 1) := o_42 (u1_4 hc_X8_look_192 rfl) rfl
theorem dX8_look_197 : decode cX8_look 197 = .ok (.getfield 46, 3) := o_180 (u1_5 hc_X8_look_192 rfl) (u2_d (u1_6 hc_X8_look_192 rfl) (u1_7 hc_X8_look_192 rfl) rfl) rfl
theorem dX8_look_200 : decode cX8_look 200 = .ok (.ifCond .eq 17, 3) := o_153 (u1_8 hc_X8_look_192 rfl) (s2_d (u2_d (u1_9 hc_X8_look_192 rfl) (u1_10 hc_X8_look_192 rfl) rfl) rfl) rfl
theorem dX8_look_203 : decode cX8_look 203 = .ok (.aload_n 0, 1) := o_42 (u1_11 hc_X8_look_192 rfl) rfl
theorem dX8_look_204 : decode cX8_look 204 = .ok (.getfield 9, 3) := o_180 (u1_12 hc_X8_look_192 rfl) (u2_d (u1_13 hc_X8_look_192 rfl) (u1_14 hc_X8_look_192 rfl) rfl) rfl
theorem dX8_look_207 : decode cX8_look 207 = .ok (.iload 4, 2) := o_21 (u1_15 hc_X8_look_192 rfl) (u1_16 hc_X8_look_192 rfl) rfl
theorem hc_X8_look_208 : ((bL cX8_look).drop 208).take 18 = [4, 51, 153, 0, 7, 4, 167, 0, 4, 3, 84, 42, 180, 0, 15, 21, 4, 42] := by decide +kernel
theorem dX8_look_209 : decode cX8_look 209 = .ok (.baload, 1) := o_51 (u1_1 hc_X8_look_208 rfl) rfl
theorem dX8_look_210 : decode cX8_look 210 = .ok (.ifCond .eq 7, 3) := o_153 (u1_2 hc_X8_look_208 rfl) (s2_d (u2_d (u1_3 hc_X8_look_208 rfl) (u1_4 hc_X8_look_208 rfl) rfl) rfl) rfl
theorem dX8_look_213 : decode cX8_look 213 = .ok (.iconst 1, 1) := o_4 (u1_5 hc_X8_look_208 rfl) rfl
theorem dX8_look_214 : decode cX8_look 214 = .ok (.goto 4, 3) := o_167 (u1_6 hc_X8_look_208 rfl) (s2_d (u2_d (u1_7 hc_X8_look_208 rfl) (u1_8 hc_X8_look_208 rfl) rfl) rfl) rfl
theorem dX8_look_217 : decode cX8_look 217 = .ok (.iconst 0, 1) := o_3 (u1_9 hc_X8_look_208 rfl) rfl
theorem dX8_look_218 : decode cX8_look 218 = .ok (.bastore, 1) := o_84 (u1_10 hc_X8_look_208 rfl) rfl
theorem dX8_look_219 : decode cX8_look 219 = .ok (.aload_n 0, 1) := o_42 (u1_11 hc_X8_look_208 rfl) rfl
theorem dX8_look_220 : decode cX8_look 220 = .ok (.getfield 15, 3) := o_180 (u1_12 hc_X8_look_208 rfl) (u2_d (u1_13 hc_X8_look_208 rfl) (u1_14 hc_X8_look_208 rfl) rfl) rfl
theorem dX8_look_223 : decode cX8_look 223 = .ok (.iload 4, 2) := o_21 (u1_15 hc_X8_look_208 rfl) (u1_16 hc_X8_look_208 rfl) rfl
theorem hc_X8_look_224 : ((bL cX8_look).drop 224).take 18 = [4, 42, 180, 0, 9, 21, 4, 51, 153, 0, 24, 21, 4, 27, 159, 0, 14, 42] := by decide +kernel
theorem dX8_look_225 : decode cX8_look 225 = .ok (.aload_n 0, 1) := o_42 (u1_1 hc_X8_look_224 rfl) rfl
theorem dX8_look_226 : decode cX8_look 226 = .ok (.getfield 9, 3) := o_180 (u1_2 hc_X8_look_224 rfl) (u2_d (u1_3 hc_X8_look_224 rfl) (u1_4 hc_X8_look_224 rfl) rfl) rfl
theorem dX8_look_229 : decode cX8_look 229 = .ok (.iload 4, 2) := o_21 (u1_5 hc_X8_look_224 rfl) (u1_6 hc_X8_look_224 rfl) rfl
theorem dX8_look_231 : decode cX8_look 231 = .ok (.baload, 1) := o_51 (u1_7 hc_X8_look_224 rfl) rfl
theorem dX8_look_232 : decode cX8_look 232 = .ok (.ifCond .eq 24, 3) := o_153 (u1_8 hc_X8_look_224 rfl) (s2_d (u2_d (u1_9 hc_X8_look_224 rfl) (u1_10 hc_X8_look_224 rfl) rfl) rfl) rfl
theorem dX8_look_235 : decode cX8_look 235 = .ok (.iload 4, 2) := o_21 (u1_11 hc_X8_look_224 rfl) (u1_12 hc_X8_look_224 rfl) rfl
theorem dX8_look_237 : decode cX8_look 237 = .ok (.iload_n 1, 1) := o_27 (u1_13 hc_X8_look_224 rfl) rfl
theorem dX8_look_238 : decode cX8_look 238 = .ok (.if_icmp .eq 14, 3) := o_159 (u1_14 hc_X8_look_224 rfl) (s2_d (u2_d (u1_15 hc_X8_look_224 rfl) (u1_16 hc_X8_look_224 rfl) rfl) rfl) rfl
theorem hc_X8_look_240 : ((bL cX8_look).drop 240).take 18 = [14, 42, 21, 4, 29, 4, 182, 0, 54, 153, 0, 7, 4, 167, 0, 4, 3, 84] := by decide +kernel
theorem dX8_look_241 : decode cX8_look 241 = .ok (.aload_n 0, 1) := o_42 (u1_1 hc_X8_look_240 rfl) rfl
theorem dX8_look_242 : decode cX8_look 242 = .ok (.iload 4, 2) := o_21 (u1_2 hc_X8_look_240 rfl) (u1_3 hc_X8_look_240 rfl) rfl
theorem dX8_look_244 : decode cX8_look 244 = .ok (.iload_n 3, 1) := o_29 (u1_4 hc_X8_look_240 rfl) rfl
theorem dX8_look_245 : decode cX8_look 245 = .ok (.iconst 1, 1) := o_4 (u1_5 hc_X8_look_240 rfl) rfl
theorem dX8_look_246 : decode cX8_look 246 = .ok (.invokevirtual 54, 3) := o_182 (u1_6 hc_X8_look_240 rfl) (u2_d (u1_7 hc_X8_look_240 rfl) (u1_8 hc_X8_look_240 rfl) rfl) rfl
theorem dX8_look_249 : decode cX8_look 249 = .ok (.ifCond .eq 7, 3) := o_153 (u1_9 hc_X8_look_240 rfl) (s2_d (u2_d (u1_10 hc_X8_look_240 rfl) (u1_11 hc_X8_look_240 rfl) rfl) rfl) rfl
theorem dX8_look_252 : decode cX8_look 252 = .ok (.iconst 1, 1) := o_4 (u1_12 hc_X8_look_240 rfl) rfl
theorem dX8_look_253 : decode cX8_look 253 = .ok (.goto 4, 3) := o_167 (u1_13 hc_X8_look_240 rfl) (s2_d (u2_d (u1_14 hc_X8_look_240 rfl) (u1_15 hc_X8_look_240 rfl) rfl) rfl) rfl
theorem hc_X8_look_256 : ((bL cX8_look).drop 256).take 18 = [3, 84, 132, 4, 1, 167, 255, 133, 177] := by decide +kernel
theorem dX8_look_256 : decode cX8_look 256 = .ok (.iconst 0, 1) := o_3 (u1_0 hc_X8_look_256 rfl) rfl
theorem dX8_look_257 : decode cX8_look 257 = .ok (.bastore, 1) := o_84 (u1_1 hc_X8_look_256 rfl) rfl
theorem dX8_look_258 : decode cX8_look 258 = .ok (.iinc 4 1, 3) := o_132 (u1_2 hc_X8_look_256 rfl) (u1_3 hc_X8_look_256 rfl) (s1_d (u1_4 hc_X8_look_256 rfl) rfl) rfl
theorem dX8_look_261 : decode cX8_look 261 = .ok (.goto (-123), 3) := o_167 (u1_5 hc_X8_look_256 rfl) (s2_d (u2_d (u1_6 hc_X8_look_256 rfl) (u1_7 hc_X8_look_256 rfl) rfl) rfl) rfl
theorem dX8_look_264 : decode cX8_look 264 = .ok (.return_, 1) := o_177 (u1_8 hc_X8_look_256 rfl) rfl
theorem hc_X8_isCover_0 : ((bL cX8_isCover).drop 0).take 18 = [42, 180, 0, 18, 27, 182, 0, 34, 6, 160, 0, 35, 42, 180, 0, 26, 27, 3] := by decide +kernel
theorem dX8_isCover_0 : decode cX8_isCover 0 = .ok (.aload_n 0, 1) := o_42 (u1_0 hc_X8_isCover_0 rfl) rfl
theorem dX8_isCover_1 : decode cX8_isCover 1 = .ok (.getfield 18, 3) := o_180 (u1_1 hc_X8_isCover_0 rfl) (u2_d (u1_2 hc_X8_isCover_0 rfl) (u1_3 hc_X8_isCover_0 rfl) rfl) rfl
theorem dX8_isCover_4 : decode cX8_isCover 4 = .ok (.iload_n 1, 1) := o_27 (u1_4 hc_X8_isCover_0 rfl) rfl
theorem dX8_isCover_5 : decode cX8_isCover 5 = .ok (.invokevirtual 34, 3) := o_182 (u1_5 hc_X8_isCover_0 rfl) (u2_d (u1_6 hc_X8_isCover_0 rfl) (u1_7 hc_X8_isCover_0 rfl) rfl) rfl
theorem dX8_isCover_8 : decode cX8_isCover 8 = .ok (.iconst 3, 1) := o_6 (u1_8 hc_X8_isCover_0 rfl) rfl
theorem dX8_isCover_9 : decode cX8_isCover 9 = .ok (.if_icmp .ne 35, 3) := o_160 (u1_9 hc_X8_isCover_0 rfl) (s2_d (u2_d (u1_10 hc_X8_isCover_0 rfl) (u1_11 hc_X8_isCover_0 rfl) rfl) rfl) rfl
theorem dX8_isCover_12 : decode cX8_isCover 12 = .ok (.aload_n 0, 1) := o_42 (u1_12 hc_X8_isCover_0 rfl) rfl
theorem dX8_isCover_13 : decode cX8_isCover 13 = .ok (.getfield 26, 3) := o_180 (u1_13 hc_X8_isCover_0 rfl) (u2_d (u1_14 hc_X8_isCover_0 rfl) (u1_15 hc_X8_isCover_0 rfl) rfl) rfl
theorem hc_X8_isCover_16 : ((bL cX8_isCover).drop 16).take 18 = [27, 3, 182, 0, 40, 154, 0, 23, 28, 154, 0, 15, 42, 180, 0, 26, 27, 8] := by decide +kernel
theorem dX8_isCover_16 : decode cX8_isCover 16 = .ok (.iload_n 1, 1) := o_27 (u1_0 hc_X8_isCover_16 rfl) rfl
theorem dX8_isCover_17 : decode cX8_isCover 17 = .ok (.iconst 0, 1) := o_3 (u1_1 hc_X8_isCover_16 rfl) rfl
theorem dX8_isCover_18 : decode cX8_isCover 18 = .ok (.invokevirtual 40, 3) := o_182 (u1_2 hc_X8_isCover_16 rfl) (u2_d (u1_3 hc_X8_isCover_16 rfl) (u1_4 hc_X8_isCover_16 rfl) rfl) rfl
theorem dX8_isCover_21 : decode cX8_isCover 21 = .ok (.ifCond .ne 23, 3) := o_154 (u1_5 hc_X8_isCover_16 rfl) (s2_d (u2_d (u1_6 hc_X8_isCover_16 rfl) (u1_7 hc_X8_isCover_16 rfl) rfl) rfl) rfl
theorem dX8_isCover_24 : decode cX8_isCover 24 = .ok (.iload_n 2, 1) := o_28 (u1_8 hc_X8_isCover_16 rfl) rfl
theorem dX8_isCover_25 : decode cX8_isCover 25 = .ok (.ifCond .ne 15, 3) := o_154 (u1_9 hc_X8_isCover_16 rfl) (s2_d (u2_d (u1_10 hc_X8_isCover_16 rfl) (u1_11 hc_X8_isCover_16 rfl) rfl) rfl) rfl
theorem dX8_isCover_28 : decode cX8_isCover 28 = .ok (.aload_n 0, 1) := o_42 (u1_12 hc_X8_isCover_16 rfl) rfl
theorem dX8_isCover_29 : decode cX8_isCover 29 = .ok (.getfield 26, 3) := o_180 (u1_13 hc_X8_isCover_16 rfl) (u2_d (u1_14 hc_X8_isCover_16 rfl) (u1_15 hc_X8_isCover_16 rfl) rfl) rfl
theorem hc_X8_isCover_32 : ((bL cX8_isCover).drop 32).take 18 = [27, 8, 182, 0, 40, 154, 0, 7, 4, 167, 0, 4, 3, 172] := by decide +kernel
theorem dX8_isCover_32 : decode cX8_isCover 32 = .ok (.iload_n 1, 1) := o_27 (u1_0 hc_X8_isCover_32 rfl) rfl
theorem dX8_isCover_33 : decode cX8_isCover 33 = .ok (.iconst 5, 1) := o_8 (u1_1 hc_X8_isCover_32 rfl) rfl
theorem dX8_isCover_34 : decode cX8_isCover 34 = .ok (.invokevirtual 40, 3) := o_182 (u1_2 hc_X8_isCover_32 rfl) (u2_d (u1_3 hc_X8_isCover_32 rfl) (u1_4 hc_X8_isCover_32 rfl) rfl) rfl
theorem dX8_isCover_37 : decode cX8_isCover 37 = .ok (.ifCond .ne 7, 3) := o_154 (u1_5 hc_X8_isCover_32 rfl) (s2_d (u2_d (u1_6 hc_X8_isCover_32 rfl) (u1_7 hc_X8_isCover_32 rfl) rfl) rfl) rfl
theorem dX8_isCover_40 : decode cX8_isCover 40 = .ok (.iconst 1, 1) := o_4 (u1_8 hc_X8_isCover_32 rfl) rfl
theorem dX8_isCover_41 : decode cX8_isCover 41 = .ok (.goto 4, 3) := o_167 (u1_9 hc_X8_isCover_32 rfl) (s2_d (u2_d (u1_10 hc_X8_isCover_32 rfl) (u1_11 hc_X8_isCover_32 rfl) rfl) rfl) rfl
theorem dX8_isCover_44 : decode cX8_isCover 44 = .ok (.iconst 0, 1) := o_3 (u1_12 hc_X8_isCover_32 rfl) rfl
theorem dX8_isCover_45 : decode cX8_isCover 45 = .ok (.ireturn, 1) := o_172 (u1_13 hc_X8_isCover_32 rfl) rfl
theorem hc_X8_shellOf_0 : ((bL cX8_shellOf).drop 0).take 18 = [42, 180, 0, 26, 27, 182, 0, 62, 62, 3, 54, 4, 21, 4, 16, 30, 162, 0] := by decide +kernel
theorem dX8_shellOf_0 : decode cX8_shellOf 0 = .ok (.aload_n 0, 1) := o_42 (u1_0 hc_X8_shellOf_0 rfl) rfl
theorem dX8_shellOf_1 : decode cX8_shellOf 1 = .ok (.getfield 26, 3) := o_180 (u1_1 hc_X8_shellOf_0 rfl) (u2_d (u1_2 hc_X8_shellOf_0 rfl) (u1_3 hc_X8_shellOf_0 rfl) rfl) rfl
theorem dX8_shellOf_4 : decode cX8_shellOf 4 = .ok (.iload_n 1, 1) := o_27 (u1_4 hc_X8_shellOf_0 rfl) rfl
theorem dX8_shellOf_5 : decode cX8_shellOf 5 = .ok (.invokevirtual 62, 3) := o_182 (u1_5 hc_X8_shellOf_0 rfl) (u2_d (u1_6 hc_X8_shellOf_0 rfl) (u1_7 hc_X8_shellOf_0 rfl) rfl) rfl
theorem dX8_shellOf_8 : decode cX8_shellOf 8 = .ok (.istore_n 3, 1) := o_62 (u1_8 hc_X8_shellOf_0 rfl) rfl
theorem dX8_shellOf_9 : decode cX8_shellOf 9 = .ok (.iconst 0, 1) := o_3 (u1_9 hc_X8_shellOf_0 rfl) rfl
theorem dX8_shellOf_10 : decode cX8_shellOf 10 = .ok (.istore 4, 2) := o_54 (u1_10 hc_X8_shellOf_0 rfl) (u1_11 hc_X8_shellOf_0 rfl) rfl
theorem dX8_shellOf_12 : decode cX8_shellOf 12 = .ok (.iload 4, 2) := o_21 (u1_12 hc_X8_shellOf_0 rfl) (u1_13 hc_X8_shellOf_0 rfl) rfl
theorem dX8_shellOf_14 : decode cX8_shellOf 14 = .ok (.bipush 30, 2) := o_16 (u1_14 hc_X8_shellOf_0 rfl) (s1_d (u1_15 hc_X8_shellOf_0 rfl) rfl) rfl
theorem hc_X8_shellOf_16 : ((bL cX8_shellOf).drop 16).take 18 = [162, 0, 46, 29, 16, 247, 159, 0, 40, 42, 180, 0, 18, 29, 182, 0, 34, 153] := by decide +kernel
theorem dX8_shellOf_16 : decode cX8_shellOf 16 = .ok (.if_icmp .ge 46, 3) := o_162 (u1_0 hc_X8_shellOf_16 rfl) (s2_d (u2_d (u1_1 hc_X8_shellOf_16 rfl) (u1_2 hc_X8_shellOf_16 rfl) rfl) rfl) rfl
theorem dX8_shellOf_19 : decode cX8_shellOf 19 = .ok (.iload_n 3, 1) := o_29 (u1_3 hc_X8_shellOf_16 rfl) rfl
theorem dX8_shellOf_20 : decode cX8_shellOf 20 = .ok (.bipush (-9), 2) := o_16 (u1_4 hc_X8_shellOf_16 rfl) (s1_d (u1_5 hc_X8_shellOf_16 rfl) rfl) rfl
theorem dX8_shellOf_22 : decode cX8_shellOf 22 = .ok (.if_icmp .eq 40, 3) := o_159 (u1_6 hc_X8_shellOf_16 rfl) (s2_d (u2_d (u1_7 hc_X8_shellOf_16 rfl) (u1_8 hc_X8_shellOf_16 rfl) rfl) rfl) rfl
theorem dX8_shellOf_25 : decode cX8_shellOf 25 = .ok (.aload_n 0, 1) := o_42 (u1_9 hc_X8_shellOf_16 rfl) rfl
theorem dX8_shellOf_26 : decode cX8_shellOf 26 = .ok (.getfield 18, 3) := o_180 (u1_10 hc_X8_shellOf_16 rfl) (u2_d (u1_11 hc_X8_shellOf_16 rfl) (u1_12 hc_X8_shellOf_16 rfl) rfl) rfl
theorem dX8_shellOf_29 : decode cX8_shellOf 29 = .ok (.iload_n 3, 1) := o_29 (u1_13 hc_X8_shellOf_16 rfl) rfl
theorem dX8_shellOf_30 : decode cX8_shellOf 30 = .ok (.invokevirtual 34, 3) := o_182 (u1_14 hc_X8_shellOf_16 rfl) (u2_d (u1_15 hc_X8_shellOf_16 rfl) (u1_16 hc_X8_shellOf_16 rfl) rfl) rfl
theorem hc_X8_shellOf_32 : ((bL cX8_shellOf).drop 32).take 18 = [34, 153, 0, 12, 42, 29, 28, 182, 0, 65, 153, 0, 5, 29, 172, 42, 180, 0] := by decide +kernel
theorem dX8_shellOf_33 : decode cX8_shellOf 33 = .ok (.ifCond .eq 12, 3) := o_153 (u1_1 hc_X8_shellOf_32 rfl) (s2_d (u2_d (u1_2 hc_X8_shellOf_32 rfl) (u1_3 hc_X8_shellOf_32 rfl) rfl) rfl) rfl
theorem dX8_shellOf_36 : decode cX8_shellOf 36 = .ok (.aload_n 0, 1) := o_42 (u1_4 hc_X8_shellOf_32 rfl) rfl
theorem dX8_shellOf_37 : decode cX8_shellOf 37 = .ok (.iload_n 3, 1) := o_29 (u1_5 hc_X8_shellOf_32 rfl) rfl
theorem dX8_shellOf_38 : decode cX8_shellOf 38 = .ok (.iload_n 2, 1) := o_28 (u1_6 hc_X8_shellOf_32 rfl) rfl
theorem dX8_shellOf_39 : decode cX8_shellOf 39 = .ok (.invokevirtual 65, 3) := o_182 (u1_7 hc_X8_shellOf_32 rfl) (u2_d (u1_8 hc_X8_shellOf_32 rfl) (u1_9 hc_X8_shellOf_32 rfl) rfl) rfl
theorem dX8_shellOf_42 : decode cX8_shellOf 42 = .ok (.ifCond .eq 5, 3) := o_153 (u1_10 hc_X8_shellOf_32 rfl) (s2_d (u2_d (u1_11 hc_X8_shellOf_32 rfl) (u1_12 hc_X8_shellOf_32 rfl) rfl) rfl) rfl
theorem dX8_shellOf_45 : decode cX8_shellOf 45 = .ok (.iload_n 3, 1) := o_29 (u1_13 hc_X8_shellOf_32 rfl) rfl
theorem dX8_shellOf_46 : decode cX8_shellOf 46 = .ok (.ireturn, 1) := o_172 (u1_14 hc_X8_shellOf_32 rfl) rfl
theorem dX8_shellOf_47 : decode cX8_shellOf 47 = .ok (.aload_n 0, 1) := o_42 (u1_15 hc_X8_shellOf_32 rfl) rfl
theorem hc_X8_shellOf_48 : ((bL cX8_shellOf).drop 48).take 18 = [180, 0, 26, 29, 182, 0, 62, 62, 132, 4, 1, 167, 255, 209, 16, 247, 172] := by decide +kernel
theorem dX8_shellOf_48 : decode cX8_shellOf 48 = .ok (.getfield 26, 3) := o_180 (u1_0 hc_X8_shellOf_48 rfl) (u2_d (u1_1 hc_X8_shellOf_48 rfl) (u1_2 hc_X8_shellOf_48 rfl) rfl) rfl
theorem dX8_shellOf_51 : decode cX8_shellOf 51 = .ok (.iload_n 3, 1) := o_29 (u1_3 hc_X8_shellOf_48 rfl) rfl
theorem dX8_shellOf_52 : decode cX8_shellOf 52 = .ok (.invokevirtual 62, 3) := o_182 (u1_4 hc_X8_shellOf_48 rfl) (u2_d (u1_5 hc_X8_shellOf_48 rfl) (u1_6 hc_X8_shellOf_48 rfl) rfl) rfl
theorem dX8_shellOf_55 : decode cX8_shellOf 55 = .ok (.istore_n 3, 1) := o_62 (u1_7 hc_X8_shellOf_48 rfl) rfl
theorem dX8_shellOf_56 : decode cX8_shellOf 56 = .ok (.iinc 4 1, 3) := o_132 (u1_8 hc_X8_shellOf_48 rfl) (u1_9 hc_X8_shellOf_48 rfl) (s1_d (u1_10 hc_X8_shellOf_48 rfl) rfl) rfl
theorem dX8_shellOf_59 : decode cX8_shellOf 59 = .ok (.goto (-47), 3) := o_167 (u1_11 hc_X8_shellOf_48 rfl) (s2_d (u2_d (u1_12 hc_X8_shellOf_48 rfl) (u1_13 hc_X8_shellOf_48 rfl) rfl) rfl) rfl
theorem dX8_shellOf_62 : decode cX8_shellOf 62 = .ok (.bipush (-9), 2) := o_16 (u1_14 hc_X8_shellOf_48 rfl) (s1_d (u1_15 hc_X8_shellOf_48 rfl) rfl) rfl
theorem hc_X8_shellOf_64 : ((bL cX8_shellOf).drop 64).take 18 = [172] := by decide +kernel
theorem dX8_shellOf_64 : decode cX8_shellOf 64 = .ok (.ireturn, 1) := o_172 (u1_0 hc_X8_shellOf_64 rfl) rfl
theorem hc_X8_isInView_0 : ((bL cX8_isInView).drop 0).take 18 = [27, 28, 160, 0, 21, 42, 180, 0, 18, 28, 182, 0, 34, 6, 160, 0, 7, 4] := by decide +kernel
theorem dX8_isInView_0 : decode cX8_isInView 0 = .ok (.iload_n 1, 1) := o_27 (u1_0 hc_X8_isInView_0 rfl) rfl
theorem dX8_isInView_1 : decode cX8_isInView 1 = .ok (.iload_n 2, 1) := o_28 (u1_1 hc_X8_isInView_0 rfl) rfl
theorem dX8_isInView_2 : decode cX8_isInView 2 = .ok (.if_icmp .ne 21, 3) := o_160 (u1_2 hc_X8_isInView_0 rfl) (s2_d (u2_d (u1_3 hc_X8_isInView_0 rfl) (u1_4 hc_X8_isInView_0 rfl) rfl) rfl) rfl
theorem dX8_isInView_5 : decode cX8_isInView 5 = .ok (.aload_n 0, 1) := o_42 (u1_5 hc_X8_isInView_0 rfl) rfl
theorem dX8_isInView_6 : decode cX8_isInView 6 = .ok (.getfield 18, 3) := o_180 (u1_6 hc_X8_isInView_0 rfl) (u2_d (u1_7 hc_X8_isInView_0 rfl) (u1_8 hc_X8_isInView_0 rfl) rfl) rfl
theorem dX8_isInView_9 : decode cX8_isInView 9 = .ok (.iload_n 2, 1) := o_28 (u1_9 hc_X8_isInView_0 rfl) rfl
theorem dX8_isInView_10 : decode cX8_isInView 10 = .ok (.invokevirtual 34, 3) := o_182 (u1_10 hc_X8_isInView_0 rfl) (u2_d (u1_11 hc_X8_isInView_0 rfl) (u1_12 hc_X8_isInView_0 rfl) rfl) rfl
theorem dX8_isInView_13 : decode cX8_isInView 13 = .ok (.iconst 3, 1) := o_6 (u1_13 hc_X8_isInView_0 rfl) rfl
theorem dX8_isInView_14 : decode cX8_isInView 14 = .ok (.if_icmp .ne 7, 3) := o_160 (u1_14 hc_X8_isInView_0 rfl) (s2_d (u2_d (u1_15 hc_X8_isInView_0 rfl) (u1_16 hc_X8_isInView_0 rfl) rfl) rfl) rfl
theorem hc_X8_isInView_16 : ((bL cX8_isInView).drop 16).take 18 = [7, 4, 167, 0, 4, 3, 172, 42, 180, 0, 18, 27, 182, 0, 34, 5, 160, 0] := by decide +kernel
theorem dX8_isInView_17 : decode cX8_isInView 17 = .ok (.iconst 1, 1) := o_4 (u1_1 hc_X8_isInView_16 rfl) rfl
theorem dX8_isInView_18 : decode cX8_isInView 18 = .ok (.goto 4, 3) := o_167 (u1_2 hc_X8_isInView_16 rfl) (s2_d (u2_d (u1_3 hc_X8_isInView_16 rfl) (u1_4 hc_X8_isInView_16 rfl) rfl) rfl) rfl
theorem dX8_isInView_21 : decode cX8_isInView 21 = .ok (.iconst 0, 1) := o_3 (u1_5 hc_X8_isInView_16 rfl) rfl
theorem dX8_isInView_22 : decode cX8_isInView 22 = .ok (.ireturn, 1) := o_172 (u1_6 hc_X8_isInView_16 rfl) rfl
theorem dX8_isInView_23 : decode cX8_isInView 23 = .ok (.aload_n 0, 1) := o_42 (u1_7 hc_X8_isInView_16 rfl) rfl
theorem dX8_isInView_24 : decode cX8_isInView 24 = .ok (.getfield 18, 3) := o_180 (u1_8 hc_X8_isInView_16 rfl) (u2_d (u1_9 hc_X8_isInView_16 rfl) (u1_10 hc_X8_isInView_16 rfl) rfl) rfl
theorem dX8_isInView_27 : decode cX8_isInView 27 = .ok (.iload_n 1, 1) := o_27 (u1_11 hc_X8_isInView_16 rfl) rfl
theorem dX8_isInView_28 : decode cX8_isInView 28 = .ok (.invokevirtual 34, 3) := o_182 (u1_12 hc_X8_isInView_16 rfl) (u2_d (u1_13 hc_X8_isInView_16 rfl) (u1_14 hc_X8_isInView_16 rfl) rfl) rfl
theorem dX8_isInView_31 : decode cX8_isInView 31 = .ok (.iconst 2, 1) := o_5 (u1_15 hc_X8_isInView_16 rfl) rfl
theorem hc_X8_isInView_32 : ((bL cX8_isInView).drop 32).take 18 = [160, 0, 13, 42, 180, 0, 22, 28, 27, 182, 0, 69, 172, 42, 180, 0, 26, 27] := by decide +kernel
theorem dX8_isInView_32 : decode cX8_isInView 32 = .ok (.if_icmp .ne 13, 3) := o_160 (u1_0 hc_X8_isInView_32 rfl) (s2_d (u2_d (u1_1 hc_X8_isInView_32 rfl) (u1_2 hc_X8_isInView_32 rfl) rfl) rfl) rfl
theorem dX8_isInView_35 : decode cX8_isInView 35 = .ok (.aload_n 0, 1) := o_42 (u1_3 hc_X8_isInView_32 rfl) rfl
theorem dX8_isInView_36 : decode cX8_isInView 36 = .ok (.getfield 22, 3) := o_180 (u1_4 hc_X8_isInView_32 rfl) (u2_d (u1_5 hc_X8_isInView_32 rfl) (u1_6 hc_X8_isInView_32 rfl) rfl) rfl
theorem dX8_isInView_39 : decode cX8_isInView 39 = .ok (.iload_n 2, 1) := o_28 (u1_7 hc_X8_isInView_32 rfl) rfl
theorem dX8_isInView_40 : decode cX8_isInView 40 = .ok (.iload_n 1, 1) := o_27 (u1_8 hc_X8_isInView_32 rfl) rfl
theorem dX8_isInView_41 : decode cX8_isInView 41 = .ok (.invokevirtual 69, 3) := o_182 (u1_9 hc_X8_isInView_32 rfl) (u2_d (u1_10 hc_X8_isInView_32 rfl) (u1_11 hc_X8_isInView_32 rfl) rfl) rfl
theorem dX8_isInView_44 : decode cX8_isInView 44 = .ok (.ireturn, 1) := o_172 (u1_12 hc_X8_isInView_32 rfl) rfl
theorem dX8_isInView_45 : decode cX8_isInView 45 = .ok (.aload_n 0, 1) := o_42 (u1_13 hc_X8_isInView_32 rfl) rfl
theorem dX8_isInView_46 : decode cX8_isInView 46 = .ok (.getfield 26, 3) := o_180 (u1_14 hc_X8_isInView_32 rfl) (u2_d (u1_15 hc_X8_isInView_32 rfl) (u1_16 hc_X8_isInView_32 rfl) rfl) rfl
theorem hc_X8_isInView_48 : ((bL cX8_isInView).drop 48).take 18 = [26, 27, 182, 0, 62, 54, 4, 3, 54, 5, 21, 5, 16, 30, 162, 0, 47, 21] := by decide +kernel
theorem dX8_isInView_49 : decode cX8_isInView 49 = .ok (.iload_n 1, 1) := o_27 (u1_1 hc_X8_isInView_48 rfl) rfl
theorem dX8_isInView_50 : decode cX8_isInView 50 = .ok (.invokevirtual 62, 3) := o_182 (u1_2 hc_X8_isInView_48 rfl) (u2_d (u1_3 hc_X8_isInView_48 rfl) (u1_4 hc_X8_isInView_48 rfl) rfl) rfl
theorem dX8_isInView_53 : decode cX8_isInView 53 = .ok (.istore 4, 2) := o_54 (u1_5 hc_X8_isInView_48 rfl) (u1_6 hc_X8_isInView_48 rfl) rfl
theorem dX8_isInView_55 : decode cX8_isInView 55 = .ok (.iconst 0, 1) := o_3 (u1_7 hc_X8_isInView_48 rfl) rfl
theorem dX8_isInView_56 : decode cX8_isInView 56 = .ok (.istore 5, 2) := o_54 (u1_8 hc_X8_isInView_48 rfl) (u1_9 hc_X8_isInView_48 rfl) rfl
theorem dX8_isInView_58 : decode cX8_isInView 58 = .ok (.iload 5, 2) := o_21 (u1_10 hc_X8_isInView_48 rfl) (u1_11 hc_X8_isInView_48 rfl) rfl
theorem dX8_isInView_60 : decode cX8_isInView 60 = .ok (.bipush 30, 2) := o_16 (u1_12 hc_X8_isInView_48 rfl) (s1_d (u1_13 hc_X8_isInView_48 rfl) rfl) rfl
theorem dX8_isInView_62 : decode cX8_isInView 62 = .ok (.if_icmp .ge 47, 3) := o_162 (u1_14 hc_X8_isInView_48 rfl) (s2_d (u2_d (u1_15 hc_X8_isInView_48 rfl) (u1_16 hc_X8_isInView_48 rfl) rfl) rfl) rfl
theorem hc_X8_isInView_64 : ((bL cX8_isInView).drop 64).take 18 = [47, 21, 4, 16, 247, 159, 0, 40, 21, 4, 28, 160, 0, 5, 4, 172, 42, 21] := by decide +kernel
theorem dX8_isInView_65 : decode cX8_isInView 65 = .ok (.iload 4, 2) := o_21 (u1_1 hc_X8_isInView_64 rfl) (u1_2 hc_X8_isInView_64 rfl) rfl
theorem dX8_isInView_67 : decode cX8_isInView 67 = .ok (.bipush (-9), 2) := o_16 (u1_3 hc_X8_isInView_64 rfl) (s1_d (u1_4 hc_X8_isInView_64 rfl) rfl) rfl
theorem dX8_isInView_69 : decode cX8_isInView 69 = .ok (.if_icmp .eq 40, 3) := o_159 (u1_5 hc_X8_isInView_64 rfl) (s2_d (u2_d (u1_6 hc_X8_isInView_64 rfl) (u1_7 hc_X8_isInView_64 rfl) rfl) rfl) rfl
theorem dX8_isInView_72 : decode cX8_isInView 72 = .ok (.iload 4, 2) := o_21 (u1_8 hc_X8_isInView_64 rfl) (u1_9 hc_X8_isInView_64 rfl) rfl
theorem dX8_isInView_74 : decode cX8_isInView 74 = .ok (.iload_n 2, 1) := o_28 (u1_10 hc_X8_isInView_64 rfl) rfl
theorem dX8_isInView_75 : decode cX8_isInView 75 = .ok (.if_icmp .ne 5, 3) := o_160 (u1_11 hc_X8_isInView_64 rfl) (s2_d (u2_d (u1_12 hc_X8_isInView_64 rfl) (u1_13 hc_X8_isInView_64 rfl) rfl) rfl) rfl
theorem dX8_isInView_78 : decode cX8_isInView 78 = .ok (.iconst 1, 1) := o_4 (u1_14 hc_X8_isInView_64 rfl) rfl
theorem dX8_isInView_79 : decode cX8_isInView 79 = .ok (.ireturn, 1) := o_172 (u1_15 hc_X8_isInView_64 rfl) rfl
theorem hc_X8_isInView_80 : ((bL cX8_isInView).drop 80).take 18 = [42, 21, 4, 29, 182, 0, 65, 153, 0, 5, 3, 172, 42, 180, 0, 26, 21, 4] := by decide +kernel
theorem dX8_isInView_80 : decode cX8_isInView 80 = .ok (.aload_n 0, 1) := o_42 (u1_0 hc_X8_isInView_80 rfl) rfl
theorem dX8_isInView_81 : decode cX8_isInView 81 = .ok (.iload 4, 2) := o_21 (u1_1 hc_X8_isInView_80 rfl) (u1_2 hc_X8_isInView_80 rfl) rfl
theorem dX8_isInView_83 : decode cX8_isInView 83 = .ok (.iload_n 3, 1) := o_29 (u1_3 hc_X8_isInView_80 rfl) rfl
theorem dX8_isInView_84 : decode cX8_isInView 84 = .ok (.invokevirtual 65, 3) := o_182 (u1_4 hc_X8_isInView_80 rfl) (u2_d (u1_5 hc_X8_isInView_80 rfl) (u1_6 hc_X8_isInView_80 rfl) rfl) rfl
theorem dX8_isInView_87 : decode cX8_isInView 87 = .ok (.ifCond .eq 5, 3) := o_153 (u1_7 hc_X8_isInView_80 rfl) (s2_d (u2_d (u1_8 hc_X8_isInView_80 rfl) (u1_9 hc_X8_isInView_80 rfl) rfl) rfl) rfl
theorem dX8_isInView_90 : decode cX8_isInView 90 = .ok (.iconst 0, 1) := o_3 (u1_10 hc_X8_isInView_80 rfl) rfl
theorem dX8_isInView_91 : decode cX8_isInView 91 = .ok (.ireturn, 1) := o_172 (u1_11 hc_X8_isInView_80 rfl) rfl
theorem dX8_isInView_92 : decode cX8_isInView 92 = .ok (.aload_n 0, 1) := o_42 (u1_12 hc_X8_isInView_80 rfl) rfl
theorem dX8_isInView_93 : decode cX8_isInView 93 = .ok (.getfield 26, 3) := o_180 (u1_13 hc_X8_isInView_80 rfl) (u2_d (u1_14 hc_X8_isInView_80 rfl) (u1_15 hc_X8_isInView_80 rfl) rfl) rfl
theorem hc_X8_isInView_96 : ((bL cX8_isInView).drop 96).take 18 = [21, 4, 182, 0, 62, 54, 4, 132, 5, 1, 167, 255, 208, 3, 172] := by decide +kernel
theorem dX8_isInView_96 : decode cX8_isInView 96 = .ok (.iload 4, 2) := o_21 (u1_0 hc_X8_isInView_96 rfl) (u1_1 hc_X8_isInView_96 rfl) rfl
theorem dX8_isInView_98 : decode cX8_isInView 98 = .ok (.invokevirtual 62, 3) := o_182 (u1_2 hc_X8_isInView_96 rfl) (u2_d (u1_3 hc_X8_isInView_96 rfl) (u1_4 hc_X8_isInView_96 rfl) rfl) rfl
theorem dX8_isInView_101 : decode cX8_isInView 101 = .ok (.istore 4, 2) := o_54 (u1_5 hc_X8_isInView_96 rfl) (u1_6 hc_X8_isInView_96 rfl) rfl
theorem dX8_isInView_103 : decode cX8_isInView 103 = .ok (.iinc 5 1, 3) := o_132 (u1_7 hc_X8_isInView_96 rfl) (u1_8 hc_X8_isInView_96 rfl) (s1_d (u1_9 hc_X8_isInView_96 rfl) rfl) rfl
theorem dX8_isInView_106 : decode cX8_isInView 106 = .ok (.goto (-48), 3) := o_167 (u1_10 hc_X8_isInView_96 rfl) (s2_d (u2_d (u1_11 hc_X8_isInView_96 rfl) (u1_12 hc_X8_isInView_96 rfl) rfl) rfl) rfl
theorem dX8_isInView_109 : decode cX8_isInView 109 = .ok (.iconst 0, 1) := o_3 (u1_13 hc_X8_isInView_96 rfl) rfl
theorem dX8_isInView_110 : decode cX8_isInView 110 = .ok (.ireturn, 1) := o_172 (u1_14 hc_X8_isInView_96 rfl) rfl
theorem hc_X9_init_0 : ((bL cX9_init).drop 0).take 18 = [42, 183, 0, 3, 42, 16, 100, 188, 10, 181, 0, 9, 42, 16, 100, 188, 10, 181] := by decide +kernel
theorem dX9_init_0 : decode cX9_init 0 = .ok (.aload_n 0, 1) := o_42 (u1_0 hc_X9_init_0 rfl) rfl
theorem dX9_init_1 : decode cX9_init 1 = .ok (.invokespecial 3, 3) := o_183 (u1_1 hc_X9_init_0 rfl) (u2_d (u1_2 hc_X9_init_0 rfl) (u1_3 hc_X9_init_0 rfl) rfl) rfl
theorem dX9_init_4 : decode cX9_init 4 = .ok (.aload_n 0, 1) := o_42 (u1_4 hc_X9_init_0 rfl) rfl
theorem dX9_init_5 : decode cX9_init 5 = .ok (.bipush 100, 2) := o_16 (u1_5 hc_X9_init_0 rfl) (s1_d (u1_6 hc_X9_init_0 rfl) rfl) rfl
theorem dX9_init_7 : decode cX9_init 7 = .ok (.newarray .int, 2) := o_188_10 (u1_7 hc_X9_init_0 rfl) (u1_8 hc_X9_init_0 rfl) rfl
theorem dX9_init_9 : decode cX9_init 9 = .ok (.putfield 9, 3) := o_181 (u1_9 hc_X9_init_0 rfl) (u2_d (u1_10 hc_X9_init_0 rfl) (u1_11 hc_X9_init_0 rfl) rfl) rfl
theorem dX9_init_12 : decode cX9_init 12 = .ok (.aload_n 0, 1) := o_42 (u1_12 hc_X9_init_0 rfl) rfl
theorem dX9_init_13 : decode cX9_init 13 = .ok (.bipush 100, 2) := o_16 (u1_13 hc_X9_init_0 rfl) (s1_d (u1_14 hc_X9_init_0 rfl) rfl) rfl
theorem dX9_init_15 : decode cX9_init 15 = .ok (.newarray .int, 2) := o_188_10 (u1_15 hc_X9_init_0 rfl) (u1_16 hc_X9_init_0 rfl) rfl
theorem hc_X9_init_16 : ((bL cX9_init).drop 16).take 18 = [10, 181, 0, 15, 42, 16, 100, 188, 10, 181, 0, 18, 42, 43, 181, 0, 21, 42] := by decide +kernel
theorem dX9_init_17 : decode cX9_init 17 = .ok (.putfield 15, 3) := o_181 (u1_1 hc_X9_init_16 rfl) (u2_d (u1_2 hc_X9_init_16 rfl) (u1_3 hc_X9_init_16 rfl) rfl) rfl
theorem dX9_init_20 : decode cX9_init 20 = .ok (.aload_n 0, 1) := o_42 (u1_4 hc_X9_init_16 rfl) rfl
theorem dX9_init_21 : decode cX9_init 21 = .ok (.bipush 100, 2) := o_16 (u1_5 hc_X9_init_16 rfl) (s1_d (u1_6 hc_X9_init_16 rfl) rfl) rfl
theorem dX9_init_23 : decode cX9_init 23 = .ok (.newarray .int, 2) := o_188_10 (u1_7 hc_X9_init_16 rfl) (u1_8 hc_X9_init_16 rfl) rfl
theorem dX9_init_25 : decode cX9_init 25 = .ok (.putfield 18, 3) := o_181 (u1_9 hc_X9_init_16 rfl) (u2_d (u1_10 hc_X9_init_16 rfl) (u1_11 hc_X9_init_16 rfl) rfl) rfl
theorem dX9_init_28 : decode cX9_init 28 = .ok (.aload_n 0, 1) := o_42 (u1_12 hc_X9_init_16 rfl) rfl
theorem dX9_init_29 : decode cX9_init 29 = .ok (.aload_n 1, 1) := o_43 (u1_13 hc_X9_init_16 rfl) rfl
theorem dX9_init_30 : decode cX9_init 30 = .ok (.putfield 21, 3) := o_181 (u1_14 hc_X9_init_16 rfl) (u2_d (u1_15 hc_X9_init_16 rfl) (u1_16 hc_X9_init_16 rfl) rfl) rfl
theorem hc_X9_init_32 : ((bL cX9_init).drop 32).take 18 = [21, 42, 44, 181, 0, 25, 42, 187, 0, 29, 89, 43, 183, 0, 31, 181, 0, 34] := by decide +kernel
theorem dX9_init_33 : decode cX9_init 33 = .ok (.aload_n 0, 1) := o_42 (u1_1 hc_X9_init_32 rfl) rfl
theorem dX9_init_34 : decode cX9_init 34 = .ok (.aload_n 2, 1) := o_44 (u1_2 hc_X9_init_32 rfl) rfl
theorem dX9_init_35 : decode cX9_init 35 = .ok (.putfield 25, 3) := o_181 (u1_3 hc_X9_init_32 rfl) (u2_d (u1_4 hc_X9_init_32 rfl) (u1_5 hc_X9_init_32 rfl) rfl) rfl
theorem dX9_init_38 : decode cX9_init 38 = .ok (.aload_n 0, 1) := o_42 (u1_6 hc_X9_init_32 rfl) rfl
theorem dX9_init_39 : decode cX9_init 39 = .ok (.new 29, 3) := o_187 (u1_7 hc_X9_init_32 rfl) (u2_d (u1_8 hc_X9_init_32 rfl) (u1_9 hc_X9_init_32 rfl) rfl) rfl
theorem dX9_init_42 : decode cX9_init 42 = .ok (.dup, 1) := o_89 (u1_10 hc_X9_init_32 rfl) rfl
theorem dX9_init_43 : decode cX9_init 43 = .ok (.aload_n 1, 1) := o_43 (u1_11 hc_X9_init_32 rfl) rfl
theorem dX9_init_44 : decode cX9_init 44 = .ok (.invokespecial 31, 3) := o_183 (u1_12 hc_X9_init_32 rfl) (u2_d (u1_13 hc_X9_init_32 rfl) (u1_14 hc_X9_init_32 rfl) rfl) rfl
theorem dX9_init_47 : decode cX9_init 47 = .ok (.putfield 34, 3) := o_181 (u1_15 hc_X9_init_32 rfl) (u2_d (u1_16 hc_X9_init_32 rfl) (u1_17 hc_X9_init_32 rfl) rfl) rfl
theorem hc_X9_init_48 : ((bL cX9_init).drop 48).take 18 = [0, 34, 42, 187, 0, 38, 89, 43, 45, 42, 180, 0, 34, 183, 0, 40, 181, 0] := by decide +kernel
theorem dX9_init_50 : decode cX9_init 50 = .ok (.aload_n 0, 1) := o_42 (u1_2 hc_X9_init_48 rfl) rfl
theorem dX9_init_51 : decode cX9_init 51 = .ok (.new 38, 3) := o_187 (u1_3 hc_X9_init_48 rfl) (u2_d (u1_4 hc_X9_init_48 rfl) (u1_5 hc_X9_init_48 rfl) rfl) rfl
theorem dX9_init_54 : decode cX9_init 54 = .ok (.dup, 1) := o_89 (u1_6 hc_X9_init_48 rfl) rfl
theorem dX9_init_55 : decode cX9_init 55 = .ok (.aload_n 1, 1) := o_43 (u1_7 hc_X9_init_48 rfl) rfl
theorem dX9_init_56 : decode cX9_init 56 = .ok (.aload_n 3, 1) := o_45 (u1_8 hc_X9_init_48 rfl) rfl
theorem dX9_init_57 : decode cX9_init 57 = .ok (.aload_n 0, 1) := o_42 (u1_9 hc_X9_init_48 rfl) rfl
theorem dX9_init_58 : decode cX9_init 58 = .ok (.getfield 34, 3) := o_180 (u1_10 hc_X9_init_48 rfl) (u2_d (u1_11 hc_X9_init_48 rfl) (u1_12 hc_X9_init_48 rfl) rfl) rfl
theorem dX9_init_61 : decode cX9_init 61 = .ok (.invokespecial 40, 3) := o_183 (u1_13 hc_X9_init_48 rfl) (u2_d (u1_14 hc_X9_init_48 rfl) (u1_15 hc_X9_init_48 rfl) rfl) rfl
theorem hc_X9_init_64 : ((bL cX9_init).drop 64).take 18 = [181, 0, 43, 42, 187, 0, 47, 89, 43, 44, 45, 25, 4, 42, 180, 0, 43, 183] := by decide +kernel
theorem dX9_init_64 : decode cX9_init 64 = .ok (.putfield 43, 3) := o_181 (u1_0 hc_X9_init_64 rfl) (u2_d (u1_1 hc_X9_init_64 rfl) (u1_2 hc_X9_init_64 rfl) rfl) rfl
theorem dX9_init_67 : decode cX9_init 67 = .ok (.aload_n 0, 1) := o_42 (u1_3 hc_X9_init_64 rfl) rfl
theorem dX9_init_68 : decode cX9_init 68 = .ok (.new 47, 3) := o_187 (u1_4 hc_X9_init_64 rfl) (u2_d (u1_5 hc_X9_init_64 rfl) (u1_6 hc_X9_init_64 rfl) rfl) rfl
theorem dX9_init_71 : decode cX9_init 71 = .ok (.dup, 1) := o_89 (u1_7 hc_X9_init_64 rfl) rfl
theorem dX9_init_72 : decode cX9_init 72 = .ok (.aload_n 1, 1) := o_43 (u1_8 hc_X9_init_64 rfl) rfl
theorem dX9_init_73 : decode cX9_init 73 = .ok (.aload_n 2, 1) := o_44 (u1_9 hc_X9_init_64 rfl) rfl
theorem dX9_init_74 : decode cX9_init 74 = .ok (.aload_n 3, 1) := o_45 (u1_10 hc_X9_init_64 rfl) rfl
theorem dX9_init_75 : decode cX9_init 75 = .ok (.aload 4, 2) := o_25 (u1_11 hc_X9_init_64 rfl) (u1_12 hc_X9_init_64 rfl) rfl
theorem dX9_init_77 : decode cX9_init 77 = .ok (.aload_n 0, 1) := o_42 (u1_13 hc_X9_init_64 rfl) rfl
theorem dX9_init_78 : decode cX9_init 78 = .ok (.getfield 43, 3) := o_180 (u1_14 hc_X9_init_64 rfl) (u2_d (u1_15 hc_X9_init_64 rfl) (u1_16 hc_X9_init_64 rfl) rfl) rfl
theorem hc_X9_init_80 : ((bL cX9_init).drop 80).take 18 = [43, 183, 0, 49, 181, 0, 52, 42, 16, 247, 181, 0, 56, 177] := by decide +kernel
theorem dX9_init_81 : decode cX9_init 81 = .ok (.invokespecial 49, 3) := o_183 (u1_1 hc_X9_init_80 rfl) (u2_d (u1_2 hc_X9_init_80 rfl) (u1_3 hc_X9_init_80 rfl) rfl) rfl
theorem dX9_init_84 : decode cX9_init 84 = .ok (.putfield 52, 3) := o_181 (u1_4 hc_X9_init_80 rfl) (u2_d (u1_5 hc_X9_init_80 rfl) (u1_6 hc_X9_init_80 rfl) rfl) rfl
theorem dX9_init_87 : decode cX9_init 87 = .ok (.aload_n 0, 1) := o_42 (u1_7 hc_X9_init_80 rfl) rfl
theorem dX9_init_88 : decode cX9_init 88 = .ok (.bipush (-9), 2) := o_16 (u1_8 hc_X9_init_80 rfl) (s1_d (u1_9 hc_X9_init_80 rfl) rfl) rfl
theorem dX9_init_90 : decode cX9_init 90 = .ok (.putfield 56, 3) := o_181 (u1_10 hc_X9_init_80 rfl) (u2_d (u1_11 hc_X9_init_80 rfl) (u1_12 hc_X9_init_80 rfl) rfl) rfl
theorem dX9_init_93 : decode cX9_init 93 = .ok (.return_, 1) := o_177 (u1_13 hc_X9_init_80 rfl) rfl
theorem hc_X9_start_0 : ((bL cX9_start).drop 0).take 18 = [3, 61, 28, 42, 180, 0, 21, 180, 0, 60, 162, 0, 23, 42, 180, 0, 34, 180] := by decide +kernel
theorem dX9_start_0 : decode cX9_start 0 = .ok (.iconst 0, 1) := o_3 (u1_0 hc_X9_start_0 rfl) rfl
theorem dX9_start_1 : decode cX9_start 1 = .ok (.istore_n 2, 1) := o_61 (u1_1 hc_X9_start_0 rfl) rfl
theorem dX9_start_2 : decode cX9_start 2 = .ok (.iload_n 2, 1) := o_28 (u1_2 hc_X9_start_0 rfl) rfl
theorem dX9_start_3 : decode cX9_start 3 = .ok (.aload_n 0, 1) := o_42 (u1_3 hc_X9_start_0 rfl) rfl
theorem dX9_start_4 : decode cX9_start 4 = .ok (.getfield 21, 3) := o_180 (u1_4 hc_X9_start_0 rfl) (u2_d (u1_5 hc_X9_start_0 rfl) (u1_6 hc_X9_start_0 rfl) rfl) rfl
theorem dX9_start_7 : decode cX9_start 7 = .ok (.getfield 60, 3) := o_180 (u1_7 hc_X9_start_0 rfl) (u2_d (u1_8 hc_X9_start_0 rfl) (u1_9 hc_X9_start_0 rfl) rfl) rfl
theorem dX9_start_10 : decode cX9_start 10 = .ok (.if_icmp .ge 23, 3) := o_162 (u1_10 hc_X9_start_0 rfl) (s2_d (u2_d (u1_11 hc_X9_start_0 rfl) (u1_12 hc_X9_start_0 rfl) rfl) rfl) rfl
theorem dX9_start_13 : decode cX9_start 13 = .ok (.aload_n 0, 1) := o_42 (u1_13 hc_X9_start_0 rfl) rfl
theorem dX9_start_14 : decode cX9_start 14 = .ok (.getfield 34, 3) := o_180 (u1_14 hc_X9_start_0 rfl) (u2_d (u1_15 hc_X9_start_0 rfl) (u1_16 hc_X9_start_0 rfl) rfl) rfl
theorem hc_X9_start_16 : ((bL cX9_start).drop 16).take 18 = [34, 180, 0, 65, 28, 42, 28, 182, 0, 68, 79, 132, 2, 1, 167, 255, 228, 42] := by decide +kernel
theorem dX9_start_17 : decode cX9_start 17 = .ok (.getfield 65, 3) := o_180 (u1_1 hc_X9_start_16 rfl) (u2_d (u1_2 hc_X9_start_16 rfl) (u1_3 hc_X9_start_16 rfl) rfl) rfl
theorem dX9_start_20 : decode cX9_start 20 = .ok (.iload_n 2, 1) := o_28 (u1_4 hc_X9_start_16 rfl) rfl
theorem dX9_start_21 : decode cX9_start 21 = .ok (.aload_n 0, 1) := o_42 (u1_5 hc_X9_start_16 rfl) rfl
theorem dX9_start_22 : decode cX9_start 22 = .ok (.iload_n 2, 1) := o_28 (u1_6 hc_X9_start_16 rfl) rfl
theorem dX9_start_23 : decode cX9_start 23 = .ok (.invokevirtual 68, 3) := o_182 (u1_7 hc_X9_start_16 rfl) (u2_d (u1_8 hc_X9_start_16 rfl) (u1_9 hc_X9_start_16 rfl) rfl) rfl
theorem dX9_start_26 : decode cX9_start 26 = .ok (.iastore, 1) := o_79 (u1_10 hc_X9_start_16 rfl) rfl
theorem dX9_start_27 : decode cX9_start 27 = .ok (.iinc 2 1, 3) := o_132 (u1_11 hc_X9_start_16 rfl) (u1_12 hc_X9_start_16 rfl) (s1_d (u1_13 hc_X9_start_16 rfl) rfl) rfl
theorem dX9_start_30 : decode cX9_start 30 = .ok (.goto (-28), 3) := o_167 (u1_14 hc_X9_start_16 rfl) (s2_d (u2_d (u1_15 hc_X9_start_16 rfl) (u1_16 hc_X9_start_16 rfl) rfl) rfl) rfl
theorem hc_X9_start_32 : ((bL cX9_start).drop 32).take 18 = [228, 42, 4, 181, 0, 72, 42, 27, 181, 0, 56, 42, 180, 0, 52, 27, 181, 0] := by decide +kernel
theorem dX9_start_33 : decode cX9_start 33 = .ok (.aload_n 0, 1) := o_42 (u1_1 hc_X9_start_32 rfl) rfl
theorem dX9_start_34 : decode cX9_start 34 = .ok (.iconst 1, 1) := o_4 (u1_2 hc_X9_start_32 rfl) rfl
theorem dX9_start_35 : decode cX9_start 35 = .ok (.putfield 72, 3) := o_181 (u1_3 hc_X9_start_32 rfl) (u2_d (u1_4 hc_X9_start_32 rfl) (u1_5 hc_X9_start_32 rfl) rfl) rfl
theorem dX9_start_38 : decode cX9_start 38 = .ok (.aload_n 0, 1) := o_42 (u1_6 hc_X9_start_32 rfl) rfl
theorem dX9_start_39 : decode cX9_start 39 = .ok (.iload_n 1, 1) := o_27 (u1_7 hc_X9_start_32 rfl) rfl
theorem dX9_start_40 : decode cX9_start 40 = .ok (.putfield 56, 3) := o_181 (u1_8 hc_X9_start_32 rfl) (u2_d (u1_9 hc_X9_start_32 rfl) (u1_10 hc_X9_start_32 rfl) rfl) rfl
theorem dX9_start_43 : decode cX9_start 43 = .ok (.aload_n 0, 1) := o_42 (u1_11 hc_X9_start_32 rfl) rfl
theorem dX9_start_44 : decode cX9_start 44 = .ok (.getfield 52, 3) := o_180 (u1_12 hc_X9_start_32 rfl) (u2_d (u1_13 hc_X9_start_32 rfl) (u1_14 hc_X9_start_32 rfl) rfl) rfl
theorem dX9_start_47 : decode cX9_start 47 = .ok (.iload_n 1, 1) := o_27 (u1_15 hc_X9_start_32 rfl) rfl
theorem hc_X9_start_48 : ((bL cX9_start).drop 48).take 18 = [181, 0, 76, 42, 3, 181, 0, 77, 42, 180, 0, 43, 42, 180, 0, 56, 182, 0] := by decide +kernel
theorem dX9_start_48 : decode cX9_start 48 = .ok (.putfield 76, 3) := o_181 (u1_0 hc_X9_start_48 rfl) (u2_d (u1_1 hc_X9_start_48 rfl) (u1_2 hc_X9_start_48 rfl) rfl) rfl
theorem dX9_start_51 : decode cX9_start 51 = .ok (.aload_n 0, 1) := o_42 (u1_3 hc_X9_start_48 rfl) rfl
theorem dX9_start_52 : decode cX9_start 52 = .ok (.iconst 0, 1) := o_3 (u1_4 hc_X9_start_48 rfl) rfl
theorem dX9_start_53 : decode cX9_start 53 = .ok (.putfield 77, 3) := o_181 (u1_5 hc_X9_start_48 rfl) (u2_d (u1_6 hc_X9_start_48 rfl) (u1_7 hc_X9_start_48 rfl) rfl) rfl
theorem dX9_start_56 : decode cX9_start 56 = .ok (.aload_n 0, 1) := o_42 (u1_8 hc_X9_start_48 rfl) rfl
theorem dX9_start_57 : decode cX9_start 57 = .ok (.getfield 43, 3) := o_180 (u1_9 hc_X9_start_48 rfl) (u2_d (u1_10 hc_X9_start_48 rfl) (u1_11 hc_X9_start_48 rfl) rfl) rfl
theorem dX9_start_60 : decode cX9_start 60 = .ok (.aload_n 0, 1) := o_42 (u1_12 hc_X9_start_48 rfl) rfl
theorem dX9_start_61 : decode cX9_start 61 = .ok (.getfield 56, 3) := o_180 (u1_13 hc_X9_start_48 rfl) (u2_d (u1_14 hc_X9_start_48 rfl) (u1_15 hc_X9_start_48 rfl) rfl) rfl
theorem hc_X9_start_64 : ((bL cX9_start).drop 64).take 18 = [182, 0, 80, 177] := by decide +kernel
theorem dX9_start_64 : decode cX9_start 64 = .ok (.invokevirtual 80, 3) := o_182 (u1_0 hc_X9_start_64 rfl) (u2_d (u1_1 hc_X9_start_64 rfl) (u1_2 hc_X9_start_64 rfl) rfl) rfl
theorem dX9_start_67 : decode cX9_start 67 = .ok (.return_, 1) := o_177 (u1_3 hc_X9_start_64 rfl) rfl
theorem hc_X9_cellAsSaid_0 : ((bL cX9_cellAsSaid).drop 0).take 18 = [42, 180, 0, 25, 180, 0, 84, 180, 0, 65, 27, 46, 61, 3, 62, 29, 16, 6] := by decide +kernel
theorem dX9_cellAsSaid_0 : decode cX9_cellAsSaid 0 = .ok (.aload_n 0, 1) := o_42 (u1_0 hc_X9_cellAsSaid_0 rfl) rfl
theorem dX9_cellAsSaid_1 : decode cX9_cellAsSaid 1 = .ok (.getfield 25, 3) := o_180 (u1_1 hc_X9_cellAsSaid_0 rfl) (u2_d (u1_2 hc_X9_cellAsSaid_0 rfl) (u1_3 hc_X9_cellAsSaid_0 rfl) rfl) rfl
theorem dX9_cellAsSaid_4 : decode cX9_cellAsSaid 4 = .ok (.getfield 84, 3) := o_180 (u1_4 hc_X9_cellAsSaid_0 rfl) (u2_d (u1_5 hc_X9_cellAsSaid_0 rfl) (u1_6 hc_X9_cellAsSaid_0 rfl) rfl) rfl
theorem dX9_cellAsSaid_7 : decode cX9_cellAsSaid 7 = .ok (.getfield 65, 3) := o_180 (u1_7 hc_X9_cellAsSaid_0 rfl) (u2_d (u1_8 hc_X9_cellAsSaid_0 rfl) (u1_9 hc_X9_cellAsSaid_0 rfl) rfl) rfl
theorem dX9_cellAsSaid_10 : decode cX9_cellAsSaid 10 = .ok (.iload_n 1, 1) := o_27 (u1_10 hc_X9_cellAsSaid_0 rfl) rfl
theorem dX9_cellAsSaid_11 : decode cX9_cellAsSaid 11 = .ok (.iaload, 1) := o_46 (u1_11 hc_X9_cellAsSaid_0 rfl) rfl
theorem dX9_cellAsSaid_12 : decode cX9_cellAsSaid 12 = .ok (.istore_n 2, 1) := o_61 (u1_12 hc_X9_cellAsSaid_0 rfl) rfl
theorem dX9_cellAsSaid_13 : decode cX9_cellAsSaid 13 = .ok (.iconst 0, 1) := o_3 (u1_13 hc_X9_cellAsSaid_0 rfl) rfl
theorem dX9_cellAsSaid_14 : decode cX9_cellAsSaid 14 = .ok (.istore_n 3, 1) := o_62 (u1_14 hc_X9_cellAsSaid_0 rfl) rfl
theorem dX9_cellAsSaid_15 : decode cX9_cellAsSaid 15 = .ok (.iload_n 3, 1) := o_29 (u1_15 hc_X9_cellAsSaid_0 rfl) rfl
theorem hc_X9_cellAsSaid_16 : ((bL cX9_cellAsSaid).drop 16).take 18 = [16, 6, 162, 0, 45, 42, 180, 0, 21, 27, 29, 182, 0, 89, 153, 0, 27, 28] := by decide +kernel
theorem dX9_cellAsSaid_16 : decode cX9_cellAsSaid 16 = .ok (.bipush 6, 2) := o_16 (u1_0 hc_X9_cellAsSaid_16 rfl) (s1_d (u1_1 hc_X9_cellAsSaid_16 rfl) rfl) rfl
theorem dX9_cellAsSaid_18 : decode cX9_cellAsSaid 18 = .ok (.if_icmp .ge 45, 3) := o_162 (u1_2 hc_X9_cellAsSaid_16 rfl) (s2_d (u2_d (u1_3 hc_X9_cellAsSaid_16 rfl) (u1_4 hc_X9_cellAsSaid_16 rfl) rfl) rfl) rfl
theorem dX9_cellAsSaid_21 : decode cX9_cellAsSaid 21 = .ok (.aload_n 0, 1) := o_42 (u1_5 hc_X9_cellAsSaid_16 rfl) rfl
theorem dX9_cellAsSaid_22 : decode cX9_cellAsSaid 22 = .ok (.getfield 21, 3) := o_180 (u1_6 hc_X9_cellAsSaid_16 rfl) (u2_d (u1_7 hc_X9_cellAsSaid_16 rfl) (u1_8 hc_X9_cellAsSaid_16 rfl) rfl) rfl
theorem dX9_cellAsSaid_25 : decode cX9_cellAsSaid 25 = .ok (.iload_n 1, 1) := o_27 (u1_9 hc_X9_cellAsSaid_16 rfl) rfl
theorem dX9_cellAsSaid_26 : decode cX9_cellAsSaid 26 = .ok (.iload_n 3, 1) := o_29 (u1_10 hc_X9_cellAsSaid_16 rfl) rfl
theorem dX9_cellAsSaid_27 : decode cX9_cellAsSaid 27 = .ok (.invokevirtual 89, 3) := o_182 (u1_11 hc_X9_cellAsSaid_16 rfl) (u2_d (u1_12 hc_X9_cellAsSaid_16 rfl) (u1_13 hc_X9_cellAsSaid_16 rfl) rfl) rfl
theorem dX9_cellAsSaid_30 : decode cX9_cellAsSaid 30 = .ok (.ifCond .eq 27, 3) := o_153 (u1_14 hc_X9_cellAsSaid_16 rfl) (s2_d (u2_d (u1_15 hc_X9_cellAsSaid_16 rfl) (u1_16 hc_X9_cellAsSaid_16 rfl) rfl) rfl) rfl
theorem hc_X9_cellAsSaid_32 : ((bL cX9_cellAsSaid).drop 32).take 18 = [27, 28, 29, 42, 180, 0, 25, 27, 29, 182, 0, 93, 4, 160, 0, 7, 4, 167] := by decide +kernel
theorem dX9_cellAsSaid_33 : decode cX9_cellAsSaid 33 = .ok (.iload_n 2, 1) := o_28 (u1_1 hc_X9_cellAsSaid_32 rfl) rfl
theorem dX9_cellAsSaid_34 : decode cX9_cellAsSaid 34 = .ok (.iload_n 3, 1) := o_29 (u1_2 hc_X9_cellAsSaid_32 rfl) rfl
theorem dX9_cellAsSaid_35 : decode cX9_cellAsSaid 35 = .ok (.aload_n 0, 1) := o_42 (u1_3 hc_X9_cellAsSaid_32 rfl) rfl
theorem dX9_cellAsSaid_36 : decode cX9_cellAsSaid 36 = .ok (.getfield 25, 3) := o_180 (u1_4 hc_X9_cellAsSaid_32 rfl) (u2_d (u1_5 hc_X9_cellAsSaid_32 rfl) (u1_6 hc_X9_cellAsSaid_32 rfl) rfl) rfl
theorem dX9_cellAsSaid_39 : decode cX9_cellAsSaid 39 = .ok (.iload_n 1, 1) := o_27 (u1_7 hc_X9_cellAsSaid_32 rfl) rfl
theorem dX9_cellAsSaid_40 : decode cX9_cellAsSaid 40 = .ok (.iload_n 3, 1) := o_29 (u1_8 hc_X9_cellAsSaid_32 rfl) rfl
theorem dX9_cellAsSaid_41 : decode cX9_cellAsSaid 41 = .ok (.invokevirtual 93, 3) := o_182 (u1_9 hc_X9_cellAsSaid_32 rfl) (u2_d (u1_10 hc_X9_cellAsSaid_32 rfl) (u1_11 hc_X9_cellAsSaid_32 rfl) rfl) rfl
theorem dX9_cellAsSaid_44 : decode cX9_cellAsSaid 44 = .ok (.iconst 1, 1) := o_4 (u1_12 hc_X9_cellAsSaid_32 rfl) rfl
theorem dX9_cellAsSaid_45 : decode cX9_cellAsSaid 45 = .ok (.if_icmp .ne 7, 3) := o_160 (u1_13 hc_X9_cellAsSaid_32 rfl) (s2_d (u2_d (u1_14 hc_X9_cellAsSaid_32 rfl) (u1_15 hc_X9_cellAsSaid_32 rfl) rfl) rfl) rfl
theorem hc_X9_cellAsSaid_48 : ((bL cX9_cellAsSaid).drop 48).take 18 = [4, 167, 0, 4, 3, 184, 0, 97, 61, 132, 3, 1, 167, 255, 211, 28, 172] := by decide +kernel
theorem dX9_cellAsSaid_48 : decode cX9_cellAsSaid 48 = .ok (.iconst 1, 1) := o_4 (u1_0 hc_X9_cellAsSaid_48 rfl) rfl
theorem dX9_cellAsSaid_49 : decode cX9_cellAsSaid 49 = .ok (.goto 4, 3) := o_167 (u1_1 hc_X9_cellAsSaid_48 rfl) (s2_d (u2_d (u1_2 hc_X9_cellAsSaid_48 rfl) (u1_3 hc_X9_cellAsSaid_48 rfl) rfl) rfl) rfl
theorem dX9_cellAsSaid_52 : decode cX9_cellAsSaid 52 = .ok (.iconst 0, 1) := o_3 (u1_4 hc_X9_cellAsSaid_48 rfl) rfl
theorem dX9_cellAsSaid_53 : decode cX9_cellAsSaid 53 = .ok (.invokestatic 97, 3) := o_184 (u1_5 hc_X9_cellAsSaid_48 rfl) (u2_d (u1_6 hc_X9_cellAsSaid_48 rfl) (u1_7 hc_X9_cellAsSaid_48 rfl) rfl) rfl
theorem dX9_cellAsSaid_56 : decode cX9_cellAsSaid 56 = .ok (.istore_n 2, 1) := o_61 (u1_8 hc_X9_cellAsSaid_48 rfl) rfl
theorem dX9_cellAsSaid_57 : decode cX9_cellAsSaid 57 = .ok (.iinc 3 1, 3) := o_132 (u1_9 hc_X9_cellAsSaid_48 rfl) (u1_10 hc_X9_cellAsSaid_48 rfl) (s1_d (u1_11 hc_X9_cellAsSaid_48 rfl) rfl) rfl
theorem dX9_cellAsSaid_60 : decode cX9_cellAsSaid 60 = .ok (.goto (-45), 3) := o_167 (u1_12 hc_X9_cellAsSaid_48 rfl) (s2_d (u2_d (u1_13 hc_X9_cellAsSaid_48 rfl) (u1_14 hc_X9_cellAsSaid_48 rfl) rfl) rfl) rfl
theorem dX9_cellAsSaid_63 : decode cX9_cellAsSaid 63 = .ok (.iload_n 2, 1) := o_28 (u1_15 hc_X9_cellAsSaid_48 rfl) rfl
theorem hc_X9_cellAsSaid_64 : ((bL cX9_cellAsSaid).drop 64).take 18 = [172] := by decide +kernel
theorem dX9_cellAsSaid_64 : decode cX9_cellAsSaid 64 = .ok (.ireturn, 1) := o_172 (u1_0 hc_X9_cellAsSaid_64 rfl) rfl
theorem hc_X9_end_0 : ((bL cX9_end).drop 0).take 18 = [42, 3, 181, 0, 72, 42, 3, 181, 0, 77, 177] := by decide +kernel
theorem dX9_end_0 : decode cX9_end 0 = .ok (.aload_n 0, 1) := o_42 (u1_0 hc_X9_end_0 rfl) rfl
theorem dX9_end_1 : decode cX9_end 1 = .ok (.iconst 0, 1) := o_3 (u1_1 hc_X9_end_0 rfl) rfl
theorem dX9_end_2 : decode cX9_end 2 = .ok (.putfield 72, 3) := o_181 (u1_2 hc_X9_end_0 rfl) (u2_d (u1_3 hc_X9_end_0 rfl) (u1_4 hc_X9_end_0 rfl) rfl) rfl
theorem dX9_end_5 : decode cX9_end 5 = .ok (.aload_n 0, 1) := o_42 (u1_5 hc_X9_end_0 rfl) rfl
theorem dX9_end_6 : decode cX9_end 6 = .ok (.iconst 0, 1) := o_3 (u1_6 hc_X9_end_0 rfl) rfl
theorem dX9_end_7 : decode cX9_end 7 = .ok (.putfield 77, 3) := o_181 (u1_7 hc_X9_end_0 rfl) (u2_d (u1_8 hc_X9_end_0 rfl) (u1_9 hc_X9_end_0 rfl) rfl) rfl
theorem dX9_end_10 : decode cX9_end 10 = .ok (.return_, 1) := o_177 (u1_10 hc_X9_end_0 rfl) rfl
theorem hc_X9_isAct_0 : ((bL cX9_isAct).drop 0).take 18 = [27, 155, 0, 9, 27, 16, 12, 164, 0, 5, 3, 172, 27, 154, 0, 10, 28, 16] := by decide +kernel
theorem dX9_isAct_0 : decode cX9_isAct 0 = .ok (.iload_n 1, 1) := o_27 (u1_0 hc_X9_isAct_0 rfl) rfl
theorem dX9_isAct_1 : decode cX9_isAct 1 = .ok (.ifCond .lt 9, 3) := o_155 (u1_1 hc_X9_isAct_0 rfl) (s2_d (u2_d (u1_2 hc_X9_isAct_0 rfl) (u1_3 hc_X9_isAct_0 rfl) rfl) rfl) rfl
theorem dX9_isAct_4 : decode cX9_isAct 4 = .ok (.iload_n 1, 1) := o_27 (u1_4 hc_X9_isAct_0 rfl) rfl
theorem dX9_isAct_5 : decode cX9_isAct 5 = .ok (.bipush 12, 2) := o_16 (u1_5 hc_X9_isAct_0 rfl) (s1_d (u1_6 hc_X9_isAct_0 rfl) rfl) rfl
theorem dX9_isAct_7 : decode cX9_isAct 7 = .ok (.if_icmp .le 5, 3) := o_164 (u1_7 hc_X9_isAct_0 rfl) (s2_d (u2_d (u1_8 hc_X9_isAct_0 rfl) (u1_9 hc_X9_isAct_0 rfl) rfl) rfl) rfl
theorem dX9_isAct_10 : decode cX9_isAct 10 = .ok (.iconst 0, 1) := o_3 (u1_10 hc_X9_isAct_0 rfl) rfl
theorem dX9_isAct_11 : decode cX9_isAct 11 = .ok (.ireturn, 1) := o_172 (u1_11 hc_X9_isAct_0 rfl) rfl
theorem dX9_isAct_12 : decode cX9_isAct 12 = .ok (.iload_n 1, 1) := o_27 (u1_12 hc_X9_isAct_0 rfl) rfl
theorem dX9_isAct_13 : decode cX9_isAct 13 = .ok (.ifCond .ne 10, 3) := o_154 (u1_13 hc_X9_isAct_0 rfl) (s2_d (u2_d (u1_14 hc_X9_isAct_0 rfl) (u1_15 hc_X9_isAct_0 rfl) rfl) rfl) rfl
theorem hc_X9_isAct_16 : ((bL cX9_isAct).drop 16).take 18 = [28, 16, 10, 184, 0, 101, 172, 27, 184, 0, 104, 153, 0, 14, 42, 180, 0, 21] := by decide +kernel
theorem dX9_isAct_16 : decode cX9_isAct 16 = .ok (.iload_n 2, 1) := o_28 (u1_0 hc_X9_isAct_16 rfl) rfl
theorem dX9_isAct_17 : decode cX9_isAct 17 = .ok (.bipush 10, 2) := o_16 (u1_1 hc_X9_isAct_16 rfl) (s1_d (u1_2 hc_X9_isAct_16 rfl) rfl) rfl
theorem dX9_isAct_19 : decode cX9_isAct 19 = .ok (.invokestatic 101, 3) := o_184 (u1_3 hc_X9_isAct_16 rfl) (u2_d (u1_4 hc_X9_isAct_16 rfl) (u1_5 hc_X9_isAct_16 rfl) rfl) rfl
theorem dX9_isAct_22 : decode cX9_isAct 22 = .ok (.ireturn, 1) := o_172 (u1_6 hc_X9_isAct_16 rfl) rfl
theorem dX9_isAct_23 : decode cX9_isAct 23 = .ok (.iload_n 1, 1) := o_27 (u1_7 hc_X9_isAct_16 rfl) rfl
theorem dX9_isAct_24 : decode cX9_isAct 24 = .ok (.invokestatic 104, 3) := o_184 (u1_8 hc_X9_isAct_16 rfl) (u2_d (u1_9 hc_X9_isAct_16 rfl) (u1_10 hc_X9_isAct_16 rfl) rfl) rfl
theorem dX9_isAct_27 : decode cX9_isAct 27 = .ok (.ifCond .eq 14, 3) := o_153 (u1_11 hc_X9_isAct_16 rfl) (s2_d (u2_d (u1_12 hc_X9_isAct_16 rfl) (u1_13 hc_X9_isAct_16 rfl) rfl) rfl) rfl
theorem dX9_isAct_30 : decode cX9_isAct 30 = .ok (.aload_n 0, 1) := o_42 (u1_14 hc_X9_isAct_16 rfl) rfl
theorem dX9_isAct_31 : decode cX9_isAct 31 = .ok (.getfield 21, 3) := o_180 (u1_15 hc_X9_isAct_16 rfl) (u2_d (u1_16 hc_X9_isAct_16 rfl) (u1_17 hc_X9_isAct_16 rfl) rfl) rfl
theorem hc_X9_isAct_32 : ((bL cX9_isAct).drop 32).take 18 = [0, 21, 28, 182, 0, 108, 153, 0, 25, 27, 184, 0, 111, 153, 0, 14, 42, 180] := by decide +kernel
theorem dX9_isAct_34 : decode cX9_isAct 34 = .ok (.iload_n 2, 1) := o_28 (u1_2 hc_X9_isAct_32 rfl) rfl
theorem dX9_isAct_35 : decode cX9_isAct 35 = .ok (.invokevirtual 108, 3) := o_182 (u1_3 hc_X9_isAct_32 rfl) (u2_d (u1_4 hc_X9_isAct_32 rfl) (u1_5 hc_X9_isAct_32 rfl) rfl) rfl
theorem dX9_isAct_38 : decode cX9_isAct 38 = .ok (.ifCond .eq 25, 3) := o_153 (u1_6 hc_X9_isAct_32 rfl) (s2_d (u2_d (u1_7 hc_X9_isAct_32 rfl) (u1_8 hc_X9_isAct_32 rfl) rfl) rfl) rfl
theorem dX9_isAct_41 : decode cX9_isAct 41 = .ok (.iload_n 1, 1) := o_27 (u1_9 hc_X9_isAct_32 rfl) rfl
theorem dX9_isAct_42 : decode cX9_isAct 42 = .ok (.invokestatic 111, 3) := o_184 (u1_10 hc_X9_isAct_32 rfl) (u2_d (u1_11 hc_X9_isAct_32 rfl) (u1_12 hc_X9_isAct_32 rfl) rfl) rfl
theorem dX9_isAct_45 : decode cX9_isAct 45 = .ok (.ifCond .eq 14, 3) := o_153 (u1_13 hc_X9_isAct_32 rfl) (s2_d (u2_d (u1_14 hc_X9_isAct_32 rfl) (u1_15 hc_X9_isAct_32 rfl) rfl) rfl) rfl
theorem hc_X9_isAct_48 : ((bL cX9_isAct).drop 48).take 18 = [42, 180, 0, 21, 29, 182, 0, 108, 153, 0, 7, 4, 167, 0, 4, 3, 172] := by decide +kernel
theorem dX9_isAct_48 : decode cX9_isAct 48 = .ok (.aload_n 0, 1) := o_42 (u1_0 hc_X9_isAct_48 rfl) rfl
theorem dX9_isAct_49 : decode cX9_isAct 49 = .ok (.getfield 21, 3) := o_180 (u1_1 hc_X9_isAct_48 rfl) (u2_d (u1_2 hc_X9_isAct_48 rfl) (u1_3 hc_X9_isAct_48 rfl) rfl) rfl
theorem dX9_isAct_52 : decode cX9_isAct 52 = .ok (.iload_n 3, 1) := o_29 (u1_4 hc_X9_isAct_48 rfl) rfl
theorem dX9_isAct_53 : decode cX9_isAct 53 = .ok (.invokevirtual 108, 3) := o_182 (u1_5 hc_X9_isAct_48 rfl) (u2_d (u1_6 hc_X9_isAct_48 rfl) (u1_7 hc_X9_isAct_48 rfl) rfl) rfl
theorem dX9_isAct_56 : decode cX9_isAct 56 = .ok (.ifCond .eq 7, 3) := o_153 (u1_8 hc_X9_isAct_48 rfl) (s2_d (u2_d (u1_9 hc_X9_isAct_48 rfl) (u1_10 hc_X9_isAct_48 rfl) rfl) rfl) rfl
theorem dX9_isAct_59 : decode cX9_isAct 59 = .ok (.iconst 1, 1) := o_4 (u1_11 hc_X9_isAct_48 rfl) rfl
theorem dX9_isAct_60 : decode cX9_isAct 60 = .ok (.goto 4, 3) := o_167 (u1_12 hc_X9_isAct_48 rfl) (s2_d (u2_d (u1_13 hc_X9_isAct_48 rfl) (u1_14 hc_X9_isAct_48 rfl) rfl) rfl) rfl
theorem dX9_isAct_63 : decode cX9_isAct 63 = .ok (.iconst 0, 1) := o_3 (u1_15 hc_X9_isAct_48 rfl) rfl
theorem hc_X9_isAct_64 : ((bL cX9_isAct).drop 64).take 18 = [172] := by decide +kernel
theorem dX9_isAct_64 : decode cX9_isAct 64 = .ok (.ireturn, 1) := o_172 (u1_0 hc_X9_isAct_64 rfl) rfl
theorem hc_X9_play_0 : ((bL cX9_play).drop 0).take 18 = [42, 180, 0, 52, 27, 28, 182, 0, 114, 54, 4, 21, 4, 154, 0, 15, 42, 180] := by decide +kernel
theorem dX9_play_0 : decode cX9_play 0 = .ok (.aload_n 0, 1) := o_42 (u1_0 hc_X9_play_0 rfl) rfl
theorem dX9_play_1 : decode cX9_play 1 = .ok (.getfield 52, 3) := o_180 (u1_1 hc_X9_play_0 rfl) (u2_d (u1_2 hc_X9_play_0 rfl) (u1_3 hc_X9_play_0 rfl) rfl) rfl
theorem dX9_play_4 : decode cX9_play 4 = .ok (.iload_n 1, 1) := o_27 (u1_4 hc_X9_play_0 rfl) rfl
theorem dX9_play_5 : decode cX9_play 5 = .ok (.iload_n 2, 1) := o_28 (u1_5 hc_X9_play_0 rfl) rfl
theorem dX9_play_6 : decode cX9_play 6 = .ok (.invokevirtual 114, 3) := o_182 (u1_6 hc_X9_play_0 rfl) (u2_d (u1_7 hc_X9_play_0 rfl) (u1_8 hc_X9_play_0 rfl) rfl) rfl
theorem dX9_play_9 : decode cX9_play 9 = .ok (.istore 4, 2) := o_54 (u1_9 hc_X9_play_0 rfl) (u1_10 hc_X9_play_0 rfl) rfl
theorem dX9_play_11 : decode cX9_play 11 = .ok (.iload 4, 2) := o_21 (u1_11 hc_X9_play_0 rfl) (u1_12 hc_X9_play_0 rfl) rfl
theorem dX9_play_13 : decode cX9_play 13 = .ok (.ifCond .ne 15, 3) := o_154 (u1_13 hc_X9_play_0 rfl) (s2_d (u2_d (u1_14 hc_X9_play_0 rfl) (u1_15 hc_X9_play_0 rfl) rfl) rfl) rfl
theorem hc_X9_play_16 : ((bL cX9_play).drop 16).take 18 = [42, 180, 0, 52, 27, 28, 29, 182, 0, 117, 54, 4, 21, 4, 154, 0, 10, 42] := by decide +kernel
theorem dX9_play_16 : decode cX9_play 16 = .ok (.aload_n 0, 1) := o_42 (u1_0 hc_X9_play_16 rfl) rfl
theorem dX9_play_17 : decode cX9_play 17 = .ok (.getfield 52, 3) := o_180 (u1_1 hc_X9_play_16 rfl) (u2_d (u1_2 hc_X9_play_16 rfl) (u1_3 hc_X9_play_16 rfl) rfl) rfl
theorem dX9_play_20 : decode cX9_play 20 = .ok (.iload_n 1, 1) := o_27 (u1_4 hc_X9_play_16 rfl) rfl
theorem dX9_play_21 : decode cX9_play 21 = .ok (.iload_n 2, 1) := o_28 (u1_5 hc_X9_play_16 rfl) rfl
theorem dX9_play_22 : decode cX9_play 22 = .ok (.iload_n 3, 1) := o_29 (u1_6 hc_X9_play_16 rfl) rfl
theorem dX9_play_23 : decode cX9_play 23 = .ok (.invokevirtual 117, 3) := o_182 (u1_7 hc_X9_play_16 rfl) (u2_d (u1_8 hc_X9_play_16 rfl) (u1_9 hc_X9_play_16 rfl) rfl) rfl
theorem dX9_play_26 : decode cX9_play 26 = .ok (.istore 4, 2) := o_54 (u1_10 hc_X9_play_16 rfl) (u1_11 hc_X9_play_16 rfl) rfl
theorem dX9_play_28 : decode cX9_play 28 = .ok (.iload 4, 2) := o_21 (u1_12 hc_X9_play_16 rfl) (u1_13 hc_X9_play_16 rfl) rfl
theorem dX9_play_30 : decode cX9_play 30 = .ok (.ifCond .ne 10, 3) := o_154 (u1_14 hc_X9_play_16 rfl) (s2_d (u2_d (u1_15 hc_X9_play_16 rfl) (u1_16 hc_X9_play_16 rfl) rfl) rfl) rfl
theorem hc_X9_play_32 : ((bL cX9_play).drop 32).take 18 = [10, 42, 27, 28, 29, 182, 0, 121, 21, 4, 172] := by decide +kernel
theorem dX9_play_33 : decode cX9_play 33 = .ok (.aload_n 0, 1) := o_42 (u1_1 hc_X9_play_32 rfl) rfl
theorem dX9_play_34 : decode cX9_play 34 = .ok (.iload_n 1, 1) := o_27 (u1_2 hc_X9_play_32 rfl) rfl
theorem dX9_play_35 : decode cX9_play 35 = .ok (.iload_n 2, 1) := o_28 (u1_3 hc_X9_play_32 rfl) rfl
theorem dX9_play_36 : decode cX9_play 36 = .ok (.iload_n 3, 1) := o_29 (u1_4 hc_X9_play_32 rfl) rfl
theorem dX9_play_37 : decode cX9_play 37 = .ok (.invokevirtual 121, 3) := o_182 (u1_5 hc_X9_play_32 rfl) (u2_d (u1_6 hc_X9_play_32 rfl) (u1_7 hc_X9_play_32 rfl) rfl) rfl
theorem dX9_play_40 : decode cX9_play 40 = .ok (.iload 4, 2) := o_21 (u1_8 hc_X9_play_32 rfl) (u1_9 hc_X9_play_32 rfl) rfl
theorem dX9_play_42 : decode cX9_play 42 = .ok (.ireturn, 1) := o_172 (u1_10 hc_X9_play_32 rfl) rfl
theorem hc_X9_doIt_0 : ((bL cX9_doIt).drop 0).take 18 = [42, 180, 0, 52, 27, 28, 182, 0, 125, 54, 4, 42, 180, 0, 9, 42, 180, 0] := by decide +kernel
theorem dX9_doIt_0 : decode cX9_doIt 0 = .ok (.aload_n 0, 1) := o_42 (u1_0 hc_X9_doIt_0 rfl) rfl
theorem dX9_doIt_1 : decode cX9_doIt 1 = .ok (.getfield 52, 3) := o_180 (u1_1 hc_X9_doIt_0 rfl) (u2_d (u1_2 hc_X9_doIt_0 rfl) (u1_3 hc_X9_doIt_0 rfl) rfl) rfl
theorem dX9_doIt_4 : decode cX9_doIt 4 = .ok (.iload_n 1, 1) := o_27 (u1_4 hc_X9_doIt_0 rfl) rfl
theorem dX9_doIt_5 : decode cX9_doIt 5 = .ok (.iload_n 2, 1) := o_28 (u1_5 hc_X9_doIt_0 rfl) rfl
theorem dX9_doIt_6 : decode cX9_doIt 6 = .ok (.invokevirtual 125, 3) := o_182 (u1_6 hc_X9_doIt_0 rfl) (u2_d (u1_7 hc_X9_doIt_0 rfl) (u1_8 hc_X9_doIt_0 rfl) rfl) rfl
theorem dX9_doIt_9 : decode cX9_doIt 9 = .ok (.istore 4, 2) := o_54 (u1_9 hc_X9_doIt_0 rfl) (u1_10 hc_X9_doIt_0 rfl) rfl
theorem dX9_doIt_11 : decode cX9_doIt 11 = .ok (.aload_n 0, 1) := o_42 (u1_11 hc_X9_doIt_0 rfl) rfl
theorem dX9_doIt_12 : decode cX9_doIt 12 = .ok (.getfield 9, 3) := o_180 (u1_12 hc_X9_doIt_0 rfl) (u2_d (u1_13 hc_X9_doIt_0 rfl) (u1_14 hc_X9_doIt_0 rfl) rfl) rfl
theorem dX9_doIt_15 : decode cX9_doIt 15 = .ok (.aload_n 0, 1) := o_42 (u1_15 hc_X9_doIt_0 rfl) rfl
theorem hc_X9_doIt_16 : ((bL cX9_doIt).drop 16).take 18 = [180, 0, 77, 27, 27, 184, 0, 104, 153, 0, 7, 28, 167, 0, 4, 3, 27, 184] := by decide +kernel
theorem dX9_doIt_16 : decode cX9_doIt 16 = .ok (.getfield 77, 3) := o_180 (u1_0 hc_X9_doIt_16 rfl) (u2_d (u1_1 hc_X9_doIt_16 rfl) (u1_2 hc_X9_doIt_16 rfl) rfl) rfl
theorem dX9_doIt_19 : decode cX9_doIt 19 = .ok (.iload_n 1, 1) := o_27 (u1_3 hc_X9_doIt_16 rfl) rfl
theorem dX9_doIt_20 : decode cX9_doIt 20 = .ok (.iload_n 1, 1) := o_27 (u1_4 hc_X9_doIt_16 rfl) rfl
theorem dX9_doIt_21 : decode cX9_doIt 21 = .ok (.invokestatic 104, 3) := o_184 (u1_5 hc_X9_doIt_16 rfl) (u2_d (u1_6 hc_X9_doIt_16 rfl) (u1_7 hc_X9_doIt_16 rfl) rfl) rfl
theorem dX9_doIt_24 : decode cX9_doIt 24 = .ok (.ifCond .eq 7, 3) := o_153 (u1_8 hc_X9_doIt_16 rfl) (s2_d (u2_d (u1_9 hc_X9_doIt_16 rfl) (u1_10 hc_X9_doIt_16 rfl) rfl) rfl) rfl
theorem dX9_doIt_27 : decode cX9_doIt 27 = .ok (.iload_n 2, 1) := o_28 (u1_11 hc_X9_doIt_16 rfl) rfl
theorem dX9_doIt_28 : decode cX9_doIt 28 = .ok (.goto 4, 3) := o_167 (u1_12 hc_X9_doIt_16 rfl) (s2_d (u2_d (u1_13 hc_X9_doIt_16 rfl) (u1_14 hc_X9_doIt_16 rfl) rfl) rfl) rfl
theorem dX9_doIt_31 : decode cX9_doIt 31 = .ok (.iconst 0, 1) := o_3 (u1_15 hc_X9_doIt_16 rfl) rfl
theorem hc_X9_doIt_32 : ((bL cX9_doIt).drop 32).take 18 = [27, 184, 0, 111, 153, 0, 7, 29, 167, 0, 4, 3, 184, 0, 128, 79, 42, 180] := by decide +kernel
theorem dX9_doIt_32 : decode cX9_doIt 32 = .ok (.iload_n 1, 1) := o_27 (u1_0 hc_X9_doIt_32 rfl) rfl
theorem dX9_doIt_33 : decode cX9_doIt 33 = .ok (.invokestatic 111, 3) := o_184 (u1_1 hc_X9_doIt_32 rfl) (u2_d (u1_2 hc_X9_doIt_32 rfl) (u1_3 hc_X9_doIt_32 rfl) rfl) rfl
theorem dX9_doIt_36 : decode cX9_doIt 36 = .ok (.ifCond .eq 7, 3) := o_153 (u1_4 hc_X9_doIt_32 rfl) (s2_d (u2_d (u1_5 hc_X9_doIt_32 rfl) (u1_6 hc_X9_doIt_32 rfl) rfl) rfl) rfl
theorem dX9_doIt_39 : decode cX9_doIt 39 = .ok (.iload_n 3, 1) := o_29 (u1_7 hc_X9_doIt_32 rfl) rfl
theorem dX9_doIt_40 : decode cX9_doIt 40 = .ok (.goto 4, 3) := o_167 (u1_8 hc_X9_doIt_32 rfl) (s2_d (u2_d (u1_9 hc_X9_doIt_32 rfl) (u1_10 hc_X9_doIt_32 rfl) rfl) rfl) rfl
theorem dX9_doIt_43 : decode cX9_doIt 43 = .ok (.iconst 0, 1) := o_3 (u1_11 hc_X9_doIt_32 rfl) rfl
theorem dX9_doIt_44 : decode cX9_doIt 44 = .ok (.invokestatic 128, 3) := o_184 (u1_12 hc_X9_doIt_32 rfl) (u2_d (u1_13 hc_X9_doIt_32 rfl) (u1_14 hc_X9_doIt_32 rfl) rfl) rfl
theorem dX9_doIt_47 : decode cX9_doIt 47 = .ok (.iastore, 1) := o_79 (u1_15 hc_X9_doIt_32 rfl) rfl
theorem hc_X9_doIt_48 : ((bL cX9_doIt).drop 48).take 18 = [42, 180, 0, 15, 42, 180, 0, 77, 21, 4, 79, 42, 180, 0, 18, 42, 180, 0] := by decide +kernel
theorem dX9_doIt_48 : decode cX9_doIt 48 = .ok (.aload_n 0, 1) := o_42 (u1_0 hc_X9_doIt_48 rfl) rfl
theorem dX9_doIt_49 : decode cX9_doIt 49 = .ok (.getfield 15, 3) := o_180 (u1_1 hc_X9_doIt_48 rfl) (u2_d (u1_2 hc_X9_doIt_48 rfl) (u1_3 hc_X9_doIt_48 rfl) rfl) rfl
theorem dX9_doIt_52 : decode cX9_doIt 52 = .ok (.aload_n 0, 1) := o_42 (u1_4 hc_X9_doIt_48 rfl) rfl
theorem dX9_doIt_53 : decode cX9_doIt 53 = .ok (.getfield 77, 3) := o_180 (u1_5 hc_X9_doIt_48 rfl) (u2_d (u1_6 hc_X9_doIt_48 rfl) (u1_7 hc_X9_doIt_48 rfl) rfl) rfl
theorem dX9_doIt_56 : decode cX9_doIt 56 = .ok (.iload 4, 2) := o_21 (u1_8 hc_X9_doIt_48 rfl) (u1_9 hc_X9_doIt_48 rfl) rfl
theorem dX9_doIt_58 : decode cX9_doIt 58 = .ok (.iastore, 1) := o_79 (u1_10 hc_X9_doIt_48 rfl) rfl
theorem dX9_doIt_59 : decode cX9_doIt 59 = .ok (.aload_n 0, 1) := o_42 (u1_11 hc_X9_doIt_48 rfl) rfl
theorem dX9_doIt_60 : decode cX9_doIt 60 = .ok (.getfield 18, 3) := o_180 (u1_12 hc_X9_doIt_48 rfl) (u2_d (u1_13 hc_X9_doIt_48 rfl) (u1_14 hc_X9_doIt_48 rfl) rfl) rfl
theorem dX9_doIt_63 : decode cX9_doIt 63 = .ok (.aload_n 0, 1) := o_42 (u1_15 hc_X9_doIt_48 rfl) rfl
theorem hc_X9_doIt_64 : ((bL cX9_doIt).drop 64).take 18 = [180, 0, 77, 42, 180, 0, 34, 180, 0, 65, 21, 4, 46, 79, 42, 89, 180, 0] := by decide +kernel
theorem dX9_doIt_64 : decode cX9_doIt 64 = .ok (.getfield 77, 3) := o_180 (u1_0 hc_X9_doIt_64 rfl) (u2_d (u1_1 hc_X9_doIt_64 rfl) (u1_2 hc_X9_doIt_64 rfl) rfl) rfl
theorem dX9_doIt_67 : decode cX9_doIt 67 = .ok (.aload_n 0, 1) := o_42 (u1_3 hc_X9_doIt_64 rfl) rfl
theorem dX9_doIt_68 : decode cX9_doIt 68 = .ok (.getfield 34, 3) := o_180 (u1_4 hc_X9_doIt_64 rfl) (u2_d (u1_5 hc_X9_doIt_64 rfl) (u1_6 hc_X9_doIt_64 rfl) rfl) rfl
theorem dX9_doIt_71 : decode cX9_doIt 71 = .ok (.getfield 65, 3) := o_180 (u1_7 hc_X9_doIt_64 rfl) (u2_d (u1_8 hc_X9_doIt_64 rfl) (u1_9 hc_X9_doIt_64 rfl) rfl) rfl
theorem dX9_doIt_74 : decode cX9_doIt 74 = .ok (.iload 4, 2) := o_21 (u1_10 hc_X9_doIt_64 rfl) (u1_11 hc_X9_doIt_64 rfl) rfl
theorem dX9_doIt_76 : decode cX9_doIt 76 = .ok (.iaload, 1) := o_46 (u1_12 hc_X9_doIt_64 rfl) rfl
theorem dX9_doIt_77 : decode cX9_doIt 77 = .ok (.iastore, 1) := o_79 (u1_13 hc_X9_doIt_64 rfl) rfl
theorem dX9_doIt_78 : decode cX9_doIt 78 = .ok (.aload_n 0, 1) := o_42 (u1_14 hc_X9_doIt_64 rfl) rfl
theorem dX9_doIt_79 : decode cX9_doIt 79 = .ok (.dup, 1) := o_89 (u1_15 hc_X9_doIt_64 rfl) rfl
theorem hc_X9_doIt_80 : ((bL cX9_doIt).drop 80).take 18 = [180, 0, 77, 4, 96, 181, 0, 77, 42, 180, 0, 34, 180, 0, 65, 21, 4, 42] := by decide +kernel
theorem dX9_doIt_80 : decode cX9_doIt 80 = .ok (.getfield 77, 3) := o_180 (u1_0 hc_X9_doIt_80 rfl) (u2_d (u1_1 hc_X9_doIt_80 rfl) (u1_2 hc_X9_doIt_80 rfl) rfl) rfl
theorem dX9_doIt_83 : decode cX9_doIt 83 = .ok (.iconst 1, 1) := o_4 (u1_3 hc_X9_doIt_80 rfl) rfl
theorem dX9_doIt_84 : decode cX9_doIt 84 = .ok (.iadd, 1) := o_96 (u1_4 hc_X9_doIt_80 rfl) rfl
theorem dX9_doIt_85 : decode cX9_doIt 85 = .ok (.putfield 77, 3) := o_181 (u1_5 hc_X9_doIt_80 rfl) (u2_d (u1_6 hc_X9_doIt_80 rfl) (u1_7 hc_X9_doIt_80 rfl) rfl) rfl
theorem dX9_doIt_88 : decode cX9_doIt 88 = .ok (.aload_n 0, 1) := o_42 (u1_8 hc_X9_doIt_80 rfl) rfl
theorem dX9_doIt_89 : decode cX9_doIt 89 = .ok (.getfield 34, 3) := o_180 (u1_9 hc_X9_doIt_80 rfl) (u2_d (u1_10 hc_X9_doIt_80 rfl) (u1_11 hc_X9_doIt_80 rfl) rfl) rfl
theorem dX9_doIt_92 : decode cX9_doIt 92 = .ok (.getfield 65, 3) := o_180 (u1_12 hc_X9_doIt_80 rfl) (u2_d (u1_13 hc_X9_doIt_80 rfl) (u1_14 hc_X9_doIt_80 rfl) rfl) rfl
theorem dX9_doIt_95 : decode cX9_doIt 95 = .ok (.iload 4, 2) := o_21 (u1_15 hc_X9_doIt_80 rfl) (u1_16 hc_X9_doIt_80 rfl) rfl
theorem hc_X9_doIt_96 : ((bL cX9_doIt).drop 96).take 18 = [4, 42, 180, 0, 52, 27, 28, 29, 182, 0, 131, 79, 42, 180, 0, 43, 42, 180] := by decide +kernel
theorem dX9_doIt_97 : decode cX9_doIt 97 = .ok (.aload_n 0, 1) := o_42 (u1_1 hc_X9_doIt_96 rfl) rfl
theorem dX9_doIt_98 : decode cX9_doIt 98 = .ok (.getfield 52, 3) := o_180 (u1_2 hc_X9_doIt_96 rfl) (u2_d (u1_3 hc_X9_doIt_96 rfl) (u1_4 hc_X9_doIt_96 rfl) rfl) rfl
theorem dX9_doIt_101 : decode cX9_doIt 101 = .ok (.iload_n 1, 1) := o_27 (u1_5 hc_X9_doIt_96 rfl) rfl
theorem dX9_doIt_102 : decode cX9_doIt 102 = .ok (.iload_n 2, 1) := o_28 (u1_6 hc_X9_doIt_96 rfl) rfl
theorem dX9_doIt_103 : decode cX9_doIt 103 = .ok (.iload_n 3, 1) := o_29 (u1_7 hc_X9_doIt_96 rfl) rfl
theorem dX9_doIt_104 : decode cX9_doIt 104 = .ok (.invokevirtual 131, 3) := o_182 (u1_8 hc_X9_doIt_96 rfl) (u2_d (u1_9 hc_X9_doIt_96 rfl) (u1_10 hc_X9_doIt_96 rfl) rfl) rfl
