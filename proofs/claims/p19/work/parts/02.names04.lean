theorem dX9_doIt_107 : decode cX9_doIt 107 = .ok (.iastore, 1) := o_79 (u1_11 hc_X9_doIt_96 rfl) rfl
theorem dX9_doIt_108 : decode cX9_doIt 108 = .ok (.aload_n 0, 1) := o_42 (u1_12 hc_X9_doIt_96 rfl) rfl
theorem dX9_doIt_109 : decode cX9_doIt 109 = .ok (.getfield 43, 3) := o_180 (u1_13 hc_X9_doIt_96 rfl) (u2_d (u1_14 hc_X9_doIt_96 rfl) (u1_15 hc_X9_doIt_96 rfl) rfl) rfl
theorem hc_X9_doIt_112 : ((bL cX9_doIt).drop 112).take 18 = [42, 180, 0, 56, 182, 0, 80, 177] := by decide +kernel
theorem dX9_doIt_112 : decode cX9_doIt 112 = .ok (.aload_n 0, 1) := o_42 (u1_0 hc_X9_doIt_112 rfl) rfl
theorem dX9_doIt_113 : decode cX9_doIt 113 = .ok (.getfield 56, 3) := o_180 (u1_1 hc_X9_doIt_112 rfl) (u2_d (u1_2 hc_X9_doIt_112 rfl) (u1_3 hc_X9_doIt_112 rfl) rfl) rfl
theorem dX9_doIt_116 : decode cX9_doIt 116 = .ok (.invokevirtual 80, 3) := o_182 (u1_4 hc_X9_doIt_112 rfl) (u2_d (u1_5 hc_X9_doIt_112 rfl) (u1_6 hc_X9_doIt_112 rfl) rfl) rfl
theorem dX9_doIt_119 : decode cX9_doIt 119 = .ok (.return_, 1) := o_177 (u1_7 hc_X9_doIt_112 rfl) rfl
theorem hc_X9_undo_0 : ((bL cX9_undo).drop 0).take 18 = [42, 89, 180, 0, 77, 4, 100, 181, 0, 77, 42, 180, 0, 34, 180, 0, 65, 42] := by decide +kernel
theorem dX9_undo_0 : decode cX9_undo 0 = .ok (.aload_n 0, 1) := o_42 (u1_0 hc_X9_undo_0 rfl) rfl
theorem dX9_undo_1 : decode cX9_undo 1 = .ok (.dup, 1) := o_89 (u1_1 hc_X9_undo_0 rfl) rfl
theorem dX9_undo_2 : decode cX9_undo 2 = .ok (.getfield 77, 3) := o_180 (u1_2 hc_X9_undo_0 rfl) (u2_d (u1_3 hc_X9_undo_0 rfl) (u1_4 hc_X9_undo_0 rfl) rfl) rfl
theorem dX9_undo_5 : decode cX9_undo 5 = .ok (.iconst 1, 1) := o_4 (u1_5 hc_X9_undo_0 rfl) rfl
theorem dX9_undo_6 : decode cX9_undo 6 = .ok (.isub, 1) := o_100 (u1_6 hc_X9_undo_0 rfl) rfl
theorem dX9_undo_7 : decode cX9_undo 7 = .ok (.putfield 77, 3) := o_181 (u1_7 hc_X9_undo_0 rfl) (u2_d (u1_8 hc_X9_undo_0 rfl) (u1_9 hc_X9_undo_0 rfl) rfl) rfl
theorem dX9_undo_10 : decode cX9_undo 10 = .ok (.aload_n 0, 1) := o_42 (u1_10 hc_X9_undo_0 rfl) rfl
theorem dX9_undo_11 : decode cX9_undo 11 = .ok (.getfield 34, 3) := o_180 (u1_11 hc_X9_undo_0 rfl) (u2_d (u1_12 hc_X9_undo_0 rfl) (u1_13 hc_X9_undo_0 rfl) rfl) rfl
theorem dX9_undo_14 : decode cX9_undo 14 = .ok (.getfield 65, 3) := o_180 (u1_14 hc_X9_undo_0 rfl) (u2_d (u1_15 hc_X9_undo_0 rfl) (u1_16 hc_X9_undo_0 rfl) rfl) rfl
theorem hc_X9_undo_16 : ((bL cX9_undo).drop 16).take 18 = [65, 42, 180, 0, 15, 42, 180, 0, 77, 46, 42, 180, 0, 18, 42, 180, 0, 77] := by decide +kernel
theorem dX9_undo_17 : decode cX9_undo 17 = .ok (.aload_n 0, 1) := o_42 (u1_1 hc_X9_undo_16 rfl) rfl
theorem dX9_undo_18 : decode cX9_undo 18 = .ok (.getfield 15, 3) := o_180 (u1_2 hc_X9_undo_16 rfl) (u2_d (u1_3 hc_X9_undo_16 rfl) (u1_4 hc_X9_undo_16 rfl) rfl) rfl
theorem dX9_undo_21 : decode cX9_undo 21 = .ok (.aload_n 0, 1) := o_42 (u1_5 hc_X9_undo_16 rfl) rfl
theorem dX9_undo_22 : decode cX9_undo 22 = .ok (.getfield 77, 3) := o_180 (u1_6 hc_X9_undo_16 rfl) (u2_d (u1_7 hc_X9_undo_16 rfl) (u1_8 hc_X9_undo_16 rfl) rfl) rfl
theorem dX9_undo_25 : decode cX9_undo 25 = .ok (.iaload, 1) := o_46 (u1_9 hc_X9_undo_16 rfl) rfl
theorem dX9_undo_26 : decode cX9_undo 26 = .ok (.aload_n 0, 1) := o_42 (u1_10 hc_X9_undo_16 rfl) rfl
theorem dX9_undo_27 : decode cX9_undo 27 = .ok (.getfield 18, 3) := o_180 (u1_11 hc_X9_undo_16 rfl) (u2_d (u1_12 hc_X9_undo_16 rfl) (u1_13 hc_X9_undo_16 rfl) rfl) rfl
theorem dX9_undo_30 : decode cX9_undo 30 = .ok (.aload_n 0, 1) := o_42 (u1_14 hc_X9_undo_16 rfl) rfl
theorem dX9_undo_31 : decode cX9_undo 31 = .ok (.getfield 77, 3) := o_180 (u1_15 hc_X9_undo_16 rfl) (u2_d (u1_16 hc_X9_undo_16 rfl) (u1_17 hc_X9_undo_16 rfl) rfl) rfl
theorem hc_X9_undo_32 : ((bL cX9_undo).drop 32).take 18 = [0, 77, 46, 79, 42, 180, 0, 43, 42, 180, 0, 56, 182, 0, 80, 177] := by decide +kernel
theorem dX9_undo_34 : decode cX9_undo 34 = .ok (.iaload, 1) := o_46 (u1_2 hc_X9_undo_32 rfl) rfl
theorem dX9_undo_35 : decode cX9_undo 35 = .ok (.iastore, 1) := o_79 (u1_3 hc_X9_undo_32 rfl) rfl
theorem dX9_undo_36 : decode cX9_undo 36 = .ok (.aload_n 0, 1) := o_42 (u1_4 hc_X9_undo_32 rfl) rfl
theorem dX9_undo_37 : decode cX9_undo 37 = .ok (.getfield 43, 3) := o_180 (u1_5 hc_X9_undo_32 rfl) (u2_d (u1_6 hc_X9_undo_32 rfl) (u1_7 hc_X9_undo_32 rfl) rfl) rfl
theorem dX9_undo_40 : decode cX9_undo 40 = .ok (.aload_n 0, 1) := o_42 (u1_8 hc_X9_undo_32 rfl) rfl
theorem dX9_undo_41 : decode cX9_undo 41 = .ok (.getfield 56, 3) := o_180 (u1_9 hc_X9_undo_32 rfl) (u2_d (u1_10 hc_X9_undo_32 rfl) (u1_11 hc_X9_undo_32 rfl) rfl) rfl
theorem dX9_undo_44 : decode cX9_undo 44 = .ok (.invokevirtual 80, 3) := o_182 (u1_12 hc_X9_undo_32 rfl) (u2_d (u1_13 hc_X9_undo_32 rfl) (u1_14 hc_X9_undo_32 rfl) rfl) rfl
theorem dX9_undo_47 : decode cX9_undo 47 = .ok (.return_, 1) := o_177 (u1_15 hc_X9_undo_32 rfl) rfl
theorem hc_X9_tellOf_0 : ((bL cX9_tellOf).drop 0).take 18 = [28, 170, 0, 0, 0, 0, 0, 153, 0, 0, 0, 0, 0, 0, 0, 5, 0, 0] := by decide +kernel
theorem dX9_tellOf_0 : decode cX9_tellOf 0 = .ok (.iload_n 2, 1) := o_28 (u1_0 hc_X9_tellOf_0 rfl) rfl
theorem dX9_tellOf_1 : decode cX9_tellOf 1 = .ok (.tableswitch 153 0 5 #[39, 50, 61, 92, 123, 138], 39) := by decide +kernel
theorem hc_X9_tellOf_32 : ((bL cX9_tellOf).drop 32).take 18 = [0, 0, 0, 123, 0, 0, 0, 138, 42, 180, 0, 34, 27, 182, 0, 134, 167, 0] := by decide +kernel
theorem dX9_tellOf_40 : decode cX9_tellOf 40 = .ok (.aload_n 0, 1) := o_42 (u1_8 hc_X9_tellOf_32 rfl) rfl
theorem dX9_tellOf_41 : decode cX9_tellOf 41 = .ok (.getfield 34, 3) := o_180 (u1_9 hc_X9_tellOf_32 rfl) (u2_d (u1_10 hc_X9_tellOf_32 rfl) (u1_11 hc_X9_tellOf_32 rfl) rfl) rfl
theorem dX9_tellOf_44 : decode cX9_tellOf 44 = .ok (.iload_n 1, 1) := o_27 (u1_12 hc_X9_tellOf_32 rfl) rfl
theorem dX9_tellOf_45 : decode cX9_tellOf 45 = .ok (.invokevirtual 134, 3) := o_182 (u1_13 hc_X9_tellOf_32 rfl) (u2_d (u1_14 hc_X9_tellOf_32 rfl) (u1_15 hc_X9_tellOf_32 rfl) rfl) rfl
theorem hc_X9_tellOf_48 : ((bL cX9_tellOf).drop 48).take 18 = [167, 0, 114, 42, 180, 0, 34, 27, 182, 0, 137, 167, 0, 103, 42, 180, 0, 21] := by decide +kernel
theorem dX9_tellOf_48 : decode cX9_tellOf 48 = .ok (.goto 114, 3) := o_167 (u1_0 hc_X9_tellOf_48 rfl) (s2_d (u2_d (u1_1 hc_X9_tellOf_48 rfl) (u1_2 hc_X9_tellOf_48 rfl) rfl) rfl) rfl
theorem dX9_tellOf_51 : decode cX9_tellOf 51 = .ok (.aload_n 0, 1) := o_42 (u1_3 hc_X9_tellOf_48 rfl) rfl
theorem dX9_tellOf_52 : decode cX9_tellOf 52 = .ok (.getfield 34, 3) := o_180 (u1_4 hc_X9_tellOf_48 rfl) (u2_d (u1_5 hc_X9_tellOf_48 rfl) (u1_6 hc_X9_tellOf_48 rfl) rfl) rfl
theorem dX9_tellOf_55 : decode cX9_tellOf 55 = .ok (.iload_n 1, 1) := o_27 (u1_7 hc_X9_tellOf_48 rfl) rfl
theorem dX9_tellOf_56 : decode cX9_tellOf 56 = .ok (.invokevirtual 137, 3) := o_182 (u1_8 hc_X9_tellOf_48 rfl) (u2_d (u1_9 hc_X9_tellOf_48 rfl) (u1_10 hc_X9_tellOf_48 rfl) rfl) rfl
theorem dX9_tellOf_59 : decode cX9_tellOf 59 = .ok (.goto 103, 3) := o_167 (u1_11 hc_X9_tellOf_48 rfl) (s2_d (u2_d (u1_12 hc_X9_tellOf_48 rfl) (u1_13 hc_X9_tellOf_48 rfl) rfl) rfl) rfl
theorem dX9_tellOf_62 : decode cX9_tellOf 62 = .ok (.aload_n 0, 1) := o_42 (u1_14 hc_X9_tellOf_48 rfl) rfl
theorem dX9_tellOf_63 : decode cX9_tellOf 63 = .ok (.getfield 21, 3) := o_180 (u1_15 hc_X9_tellOf_48 rfl) (u2_d (u1_16 hc_X9_tellOf_48 rfl) (u1_17 hc_X9_tellOf_48 rfl) rfl) rfl
theorem hc_X9_tellOf_64 : ((bL cX9_tellOf).drop 64).take 18 = [0, 21, 27, 182, 0, 140, 153, 0, 18, 42, 180, 0, 34, 27, 3, 182, 0, 143] := by decide +kernel
theorem dX9_tellOf_66 : decode cX9_tellOf 66 = .ok (.iload_n 1, 1) := o_27 (u1_2 hc_X9_tellOf_64 rfl) rfl
theorem dX9_tellOf_67 : decode cX9_tellOf 67 = .ok (.invokevirtual 140, 3) := o_182 (u1_3 hc_X9_tellOf_64 rfl) (u2_d (u1_4 hc_X9_tellOf_64 rfl) (u1_5 hc_X9_tellOf_64 rfl) rfl) rfl
theorem dX9_tellOf_70 : decode cX9_tellOf 70 = .ok (.ifCond .eq 18, 3) := o_153 (u1_6 hc_X9_tellOf_64 rfl) (s2_d (u2_d (u1_7 hc_X9_tellOf_64 rfl) (u1_8 hc_X9_tellOf_64 rfl) rfl) rfl) rfl
theorem dX9_tellOf_73 : decode cX9_tellOf 73 = .ok (.aload_n 0, 1) := o_42 (u1_9 hc_X9_tellOf_64 rfl) rfl
theorem dX9_tellOf_74 : decode cX9_tellOf 74 = .ok (.getfield 34, 3) := o_180 (u1_10 hc_X9_tellOf_64 rfl) (u2_d (u1_11 hc_X9_tellOf_64 rfl) (u1_12 hc_X9_tellOf_64 rfl) rfl) rfl
theorem dX9_tellOf_77 : decode cX9_tellOf 77 = .ok (.iload_n 1, 1) := o_27 (u1_13 hc_X9_tellOf_64 rfl) rfl
theorem dX9_tellOf_78 : decode cX9_tellOf 78 = .ok (.iconst 0, 1) := o_3 (u1_14 hc_X9_tellOf_64 rfl) rfl
theorem dX9_tellOf_79 : decode cX9_tellOf 79 = .ok (.invokevirtual 143, 3) := o_182 (u1_15 hc_X9_tellOf_64 rfl) (u2_d (u1_16 hc_X9_tellOf_64 rfl) (u1_17 hc_X9_tellOf_64 rfl) rfl) rfl
theorem hc_X9_tellOf_80 : ((bL cX9_tellOf).drop 80).take 18 = [0, 143, 184, 0, 146, 167, 0, 77, 16, 247, 167, 0, 72, 42, 180, 0, 21, 27] := by decide +kernel
theorem dX9_tellOf_82 : decode cX9_tellOf 82 = .ok (.invokestatic 146, 3) := o_184 (u1_2 hc_X9_tellOf_80 rfl) (u2_d (u1_3 hc_X9_tellOf_80 rfl) (u1_4 hc_X9_tellOf_80 rfl) rfl) rfl
theorem dX9_tellOf_85 : decode cX9_tellOf 85 = .ok (.goto 77, 3) := o_167 (u1_5 hc_X9_tellOf_80 rfl) (s2_d (u2_d (u1_6 hc_X9_tellOf_80 rfl) (u1_7 hc_X9_tellOf_80 rfl) rfl) rfl) rfl
theorem dX9_tellOf_88 : decode cX9_tellOf 88 = .ok (.bipush (-9), 2) := o_16 (u1_8 hc_X9_tellOf_80 rfl) (s1_d (u1_9 hc_X9_tellOf_80 rfl) rfl) rfl
theorem dX9_tellOf_90 : decode cX9_tellOf 90 = .ok (.goto 72, 3) := o_167 (u1_10 hc_X9_tellOf_80 rfl) (s2_d (u2_d (u1_11 hc_X9_tellOf_80 rfl) (u1_12 hc_X9_tellOf_80 rfl) rfl) rfl) rfl
theorem dX9_tellOf_93 : decode cX9_tellOf 93 = .ok (.aload_n 0, 1) := o_42 (u1_13 hc_X9_tellOf_80 rfl) rfl
theorem dX9_tellOf_94 : decode cX9_tellOf 94 = .ok (.getfield 21, 3) := o_180 (u1_14 hc_X9_tellOf_80 rfl) (u2_d (u1_15 hc_X9_tellOf_80 rfl) (u1_16 hc_X9_tellOf_80 rfl) rfl) rfl
theorem hc_X9_tellOf_96 : ((bL cX9_tellOf).drop 96).take 18 = [21, 27, 182, 0, 140, 153, 0, 18, 42, 180, 0, 34, 27, 4, 182, 0, 143, 184] := by decide +kernel
theorem dX9_tellOf_97 : decode cX9_tellOf 97 = .ok (.iload_n 1, 1) := o_27 (u1_1 hc_X9_tellOf_96 rfl) rfl
theorem dX9_tellOf_98 : decode cX9_tellOf 98 = .ok (.invokevirtual 140, 3) := o_182 (u1_2 hc_X9_tellOf_96 rfl) (u2_d (u1_3 hc_X9_tellOf_96 rfl) (u1_4 hc_X9_tellOf_96 rfl) rfl) rfl
theorem dX9_tellOf_101 : decode cX9_tellOf 101 = .ok (.ifCond .eq 18, 3) := o_153 (u1_5 hc_X9_tellOf_96 rfl) (s2_d (u2_d (u1_6 hc_X9_tellOf_96 rfl) (u1_7 hc_X9_tellOf_96 rfl) rfl) rfl) rfl
theorem dX9_tellOf_104 : decode cX9_tellOf 104 = .ok (.aload_n 0, 1) := o_42 (u1_8 hc_X9_tellOf_96 rfl) rfl
theorem dX9_tellOf_105 : decode cX9_tellOf 105 = .ok (.getfield 34, 3) := o_180 (u1_9 hc_X9_tellOf_96 rfl) (u2_d (u1_10 hc_X9_tellOf_96 rfl) (u1_11 hc_X9_tellOf_96 rfl) rfl) rfl
theorem dX9_tellOf_108 : decode cX9_tellOf 108 = .ok (.iload_n 1, 1) := o_27 (u1_12 hc_X9_tellOf_96 rfl) rfl
theorem dX9_tellOf_109 : decode cX9_tellOf 109 = .ok (.iconst 1, 1) := o_4 (u1_13 hc_X9_tellOf_96 rfl) rfl
theorem dX9_tellOf_110 : decode cX9_tellOf 110 = .ok (.invokevirtual 143, 3) := o_182 (u1_14 hc_X9_tellOf_96 rfl) (u2_d (u1_15 hc_X9_tellOf_96 rfl) (u1_16 hc_X9_tellOf_96 rfl) rfl) rfl
theorem hc_X9_tellOf_112 : ((bL cX9_tellOf).drop 112).take 18 = [143, 184, 0, 146, 167, 0, 46, 16, 247, 167, 0, 41, 42, 180, 0, 43, 180, 0] := by decide +kernel
theorem dX9_tellOf_113 : decode cX9_tellOf 113 = .ok (.invokestatic 146, 3) := o_184 (u1_1 hc_X9_tellOf_112 rfl) (u2_d (u1_2 hc_X9_tellOf_112 rfl) (u1_3 hc_X9_tellOf_112 rfl) rfl) rfl
theorem dX9_tellOf_116 : decode cX9_tellOf 116 = .ok (.goto 46, 3) := o_167 (u1_4 hc_X9_tellOf_112 rfl) (s2_d (u2_d (u1_5 hc_X9_tellOf_112 rfl) (u1_6 hc_X9_tellOf_112 rfl) rfl) rfl) rfl
theorem dX9_tellOf_119 : decode cX9_tellOf 119 = .ok (.bipush (-9), 2) := o_16 (u1_7 hc_X9_tellOf_112 rfl) (s1_d (u1_8 hc_X9_tellOf_112 rfl) rfl) rfl
theorem dX9_tellOf_121 : decode cX9_tellOf 121 = .ok (.goto 41, 3) := o_167 (u1_9 hc_X9_tellOf_112 rfl) (s2_d (u2_d (u1_10 hc_X9_tellOf_112 rfl) (u1_11 hc_X9_tellOf_112 rfl) rfl) rfl) rfl
theorem dX9_tellOf_124 : decode cX9_tellOf 124 = .ok (.aload_n 0, 1) := o_42 (u1_12 hc_X9_tellOf_112 rfl) rfl
theorem dX9_tellOf_125 : decode cX9_tellOf 125 = .ok (.getfield 43, 3) := o_180 (u1_13 hc_X9_tellOf_112 rfl) (u2_d (u1_14 hc_X9_tellOf_112 rfl) (u1_15 hc_X9_tellOf_112 rfl) rfl) rfl
theorem hc_X9_tellOf_128 : ((bL cX9_tellOf).drop 128).take 18 = [180, 0, 150, 27, 51, 184, 0, 146, 167, 0, 26, 42, 180, 0, 43, 180, 0, 154] := by decide +kernel
theorem dX9_tellOf_128 : decode cX9_tellOf 128 = .ok (.getfield 150, 3) := o_180 (u1_0 hc_X9_tellOf_128 rfl) (u2_d (u1_1 hc_X9_tellOf_128 rfl) (u1_2 hc_X9_tellOf_128 rfl) rfl) rfl
theorem dX9_tellOf_131 : decode cX9_tellOf 131 = .ok (.iload_n 1, 1) := o_27 (u1_3 hc_X9_tellOf_128 rfl) rfl
theorem dX9_tellOf_132 : decode cX9_tellOf 132 = .ok (.baload, 1) := o_51 (u1_4 hc_X9_tellOf_128 rfl) rfl
theorem dX9_tellOf_133 : decode cX9_tellOf 133 = .ok (.invokestatic 146, 3) := o_184 (u1_5 hc_X9_tellOf_128 rfl) (u2_d (u1_6 hc_X9_tellOf_128 rfl) (u1_7 hc_X9_tellOf_128 rfl) rfl) rfl
theorem dX9_tellOf_136 : decode cX9_tellOf 136 = .ok (.goto 26, 3) := o_167 (u1_8 hc_X9_tellOf_128 rfl) (s2_d (u2_d (u1_9 hc_X9_tellOf_128 rfl) (u1_10 hc_X9_tellOf_128 rfl) rfl) rfl) rfl
theorem dX9_tellOf_139 : decode cX9_tellOf 139 = .ok (.aload_n 0, 1) := o_42 (u1_11 hc_X9_tellOf_128 rfl) rfl
theorem dX9_tellOf_140 : decode cX9_tellOf 140 = .ok (.getfield 43, 3) := o_180 (u1_12 hc_X9_tellOf_128 rfl) (u2_d (u1_13 hc_X9_tellOf_128 rfl) (u1_14 hc_X9_tellOf_128 rfl) rfl) rfl
theorem dX9_tellOf_143 : decode cX9_tellOf 143 = .ok (.getfield 154, 3) := o_180 (u1_15 hc_X9_tellOf_128 rfl) (u2_d (u1_16 hc_X9_tellOf_128 rfl) (u1_17 hc_X9_tellOf_128 rfl) rfl) rfl
theorem hc_X9_tellOf_144 : ((bL cX9_tellOf).drop 144).take 18 = [0, 154, 27, 51, 184, 0, 146, 167, 0, 11, 42, 180, 0, 34, 27, 182, 0, 157] := by decide +kernel
theorem dX9_tellOf_146 : decode cX9_tellOf 146 = .ok (.iload_n 1, 1) := o_27 (u1_2 hc_X9_tellOf_144 rfl) rfl
theorem dX9_tellOf_147 : decode cX9_tellOf 147 = .ok (.baload, 1) := o_51 (u1_3 hc_X9_tellOf_144 rfl) rfl
theorem dX9_tellOf_148 : decode cX9_tellOf 148 = .ok (.invokestatic 146, 3) := o_184 (u1_4 hc_X9_tellOf_144 rfl) (u2_d (u1_5 hc_X9_tellOf_144 rfl) (u1_6 hc_X9_tellOf_144 rfl) rfl) rfl
theorem dX9_tellOf_151 : decode cX9_tellOf 151 = .ok (.goto 11, 3) := o_167 (u1_7 hc_X9_tellOf_144 rfl) (s2_d (u2_d (u1_8 hc_X9_tellOf_144 rfl) (u1_9 hc_X9_tellOf_144 rfl) rfl) rfl) rfl
theorem dX9_tellOf_154 : decode cX9_tellOf 154 = .ok (.aload_n 0, 1) := o_42 (u1_10 hc_X9_tellOf_144 rfl) rfl
theorem dX9_tellOf_155 : decode cX9_tellOf 155 = .ok (.getfield 34, 3) := o_180 (u1_11 hc_X9_tellOf_144 rfl) (u2_d (u1_12 hc_X9_tellOf_144 rfl) (u1_13 hc_X9_tellOf_144 rfl) rfl) rfl
theorem dX9_tellOf_158 : decode cX9_tellOf 158 = .ok (.iload_n 1, 1) := o_27 (u1_14 hc_X9_tellOf_144 rfl) rfl
theorem dX9_tellOf_159 : decode cX9_tellOf 159 = .ok (.invokevirtual 157, 3) := o_182 (u1_15 hc_X9_tellOf_144 rfl) (u2_d (u1_16 hc_X9_tellOf_144 rfl) (u1_17 hc_X9_tellOf_144 rfl) rfl) rfl
theorem hc_X9_tellOf_160 : ((bL cX9_tellOf).drop 160).take 18 = [0, 157, 172] := by decide +kernel
theorem dX9_tellOf_162 : decode cX9_tellOf 162 = .ok (.ireturn, 1) := o_172 (u1_2 hc_X9_tellOf_160 rfl) rfl
theorem hc_X10_init_0 : ((bL cX10_init).drop 0).take 18 = [42, 183, 0, 3, 42, 16, 24, 188, 10, 181, 0, 9, 42, 16, 24, 188, 10, 181] := by decide +kernel
theorem dX10_init_0 : decode cX10_init 0 = .ok (.aload_n 0, 1) := o_42 (u1_0 hc_X10_init_0 rfl) rfl
theorem dX10_init_1 : decode cX10_init 1 = .ok (.invokespecial 3, 3) := o_183 (u1_1 hc_X10_init_0 rfl) (u2_d (u1_2 hc_X10_init_0 rfl) (u1_3 hc_X10_init_0 rfl) rfl) rfl
theorem dX10_init_4 : decode cX10_init 4 = .ok (.aload_n 0, 1) := o_42 (u1_4 hc_X10_init_0 rfl) rfl
theorem dX10_init_5 : decode cX10_init 5 = .ok (.bipush 24, 2) := o_16 (u1_5 hc_X10_init_0 rfl) (s1_d (u1_6 hc_X10_init_0 rfl) rfl) rfl
theorem dX10_init_7 : decode cX10_init 7 = .ok (.newarray .int, 2) := o_188_10 (u1_7 hc_X10_init_0 rfl) (u1_8 hc_X10_init_0 rfl) rfl
theorem dX10_init_9 : decode cX10_init 9 = .ok (.putfield 9, 3) := o_181 (u1_9 hc_X10_init_0 rfl) (u2_d (u1_10 hc_X10_init_0 rfl) (u1_11 hc_X10_init_0 rfl) rfl) rfl
theorem dX10_init_12 : decode cX10_init 12 = .ok (.aload_n 0, 1) := o_42 (u1_12 hc_X10_init_0 rfl) rfl
theorem dX10_init_13 : decode cX10_init 13 = .ok (.bipush 24, 2) := o_16 (u1_13 hc_X10_init_0 rfl) (s1_d (u1_14 hc_X10_init_0 rfl) rfl) rfl
theorem dX10_init_15 : decode cX10_init 15 = .ok (.newarray .int, 2) := o_188_10 (u1_15 hc_X10_init_0 rfl) (u1_16 hc_X10_init_0 rfl) rfl
theorem hc_X10_init_16 : ((bL cX10_init).drop 16).take 18 = [10, 181, 0, 15, 42, 17, 0, 144, 188, 10, 181, 0, 18, 42, 16, 30, 188, 10] := by decide +kernel
theorem dX10_init_17 : decode cX10_init 17 = .ok (.putfield 15, 3) := o_181 (u1_1 hc_X10_init_16 rfl) (u2_d (u1_2 hc_X10_init_16 rfl) (u1_3 hc_X10_init_16 rfl) rfl) rfl
theorem dX10_init_20 : decode cX10_init 20 = .ok (.aload_n 0, 1) := o_42 (u1_4 hc_X10_init_16 rfl) rfl
theorem dX10_init_21 : decode cX10_init 21 = .ok (.sipush 144, 3) := o_17 (u1_5 hc_X10_init_16 rfl) (s2_d (u2_d (u1_6 hc_X10_init_16 rfl) (u1_7 hc_X10_init_16 rfl) rfl) rfl) rfl
theorem dX10_init_24 : decode cX10_init 24 = .ok (.newarray .int, 2) := o_188_10 (u1_8 hc_X10_init_16 rfl) (u1_9 hc_X10_init_16 rfl) rfl
theorem dX10_init_26 : decode cX10_init 26 = .ok (.putfield 18, 3) := o_181 (u1_10 hc_X10_init_16 rfl) (u2_d (u1_11 hc_X10_init_16 rfl) (u1_12 hc_X10_init_16 rfl) rfl) rfl
theorem dX10_init_29 : decode cX10_init 29 = .ok (.aload_n 0, 1) := o_42 (u1_13 hc_X10_init_16 rfl) rfl
theorem dX10_init_30 : decode cX10_init 30 = .ok (.bipush 30, 2) := o_16 (u1_14 hc_X10_init_16 rfl) (s1_d (u1_15 hc_X10_init_16 rfl) rfl) rfl
theorem hc_X10_init_32 : ((bL cX10_init).drop 32).take 18 = [188, 10, 181, 0, 21, 42, 16, 30, 188, 10, 181, 0, 24, 42, 180, 0, 18, 16] := by decide +kernel
theorem dX10_init_32 : decode cX10_init 32 = .ok (.newarray .int, 2) := o_188_10 (u1_0 hc_X10_init_32 rfl) (u1_1 hc_X10_init_32 rfl) rfl
theorem dX10_init_34 : decode cX10_init 34 = .ok (.putfield 21, 3) := o_181 (u1_2 hc_X10_init_32 rfl) (u2_d (u1_3 hc_X10_init_32 rfl) (u1_4 hc_X10_init_32 rfl) rfl) rfl
theorem dX10_init_37 : decode cX10_init 37 = .ok (.aload_n 0, 1) := o_42 (u1_5 hc_X10_init_32 rfl) rfl
theorem dX10_init_38 : decode cX10_init 38 = .ok (.bipush 30, 2) := o_16 (u1_6 hc_X10_init_32 rfl) (s1_d (u1_7 hc_X10_init_32 rfl) rfl) rfl
theorem dX10_init_40 : decode cX10_init 40 = .ok (.newarray .int, 2) := o_188_10 (u1_8 hc_X10_init_32 rfl) (u1_9 hc_X10_init_32 rfl) rfl
theorem dX10_init_42 : decode cX10_init 42 = .ok (.putfield 24, 3) := o_181 (u1_10 hc_X10_init_32 rfl) (u2_d (u1_11 hc_X10_init_32 rfl) (u1_12 hc_X10_init_32 rfl) rfl) rfl
theorem dX10_init_45 : decode cX10_init 45 = .ok (.aload_n 0, 1) := o_42 (u1_13 hc_X10_init_32 rfl) rfl
theorem dX10_init_46 : decode cX10_init 46 = .ok (.getfield 18, 3) := o_180 (u1_14 hc_X10_init_32 rfl) (u2_d (u1_15 hc_X10_init_32 rfl) (u1_16 hc_X10_init_32 rfl) rfl) rfl
theorem hc_X10_init_48 : ((bL cX10_init).drop 48).take 18 = [18, 16, 247, 184, 0, 27, 3, 60, 27, 8, 163, 0, 33, 42, 180, 0, 9, 27] := by decide +kernel
theorem dX10_init_49 : decode cX10_init 49 = .ok (.bipush (-9), 2) := o_16 (u1_1 hc_X10_init_48 rfl) (s1_d (u1_2 hc_X10_init_48 rfl) rfl) rfl
theorem dX10_init_51 : decode cX10_init 51 = .ok (.invokestatic 27, 3) := o_184 (u1_3 hc_X10_init_48 rfl) (u2_d (u1_4 hc_X10_init_48 rfl) (u1_5 hc_X10_init_48 rfl) rfl) rfl
theorem dX10_init_54 : decode cX10_init 54 = .ok (.iconst 0, 1) := o_3 (u1_6 hc_X10_init_48 rfl) rfl
theorem dX10_init_55 : decode cX10_init 55 = .ok (.istore_n 1, 1) := o_60 (u1_7 hc_X10_init_48 rfl) rfl
theorem dX10_init_56 : decode cX10_init 56 = .ok (.iload_n 1, 1) := o_27 (u1_8 hc_X10_init_48 rfl) rfl
theorem dX10_init_57 : decode cX10_init 57 = .ok (.iconst 5, 1) := o_8 (u1_9 hc_X10_init_48 rfl) rfl
theorem dX10_init_58 : decode cX10_init 58 = .ok (.if_icmp .gt 33, 3) := o_163 (u1_10 hc_X10_init_48 rfl) (s2_d (u2_d (u1_11 hc_X10_init_48 rfl) (u1_12 hc_X10_init_48 rfl) rfl) rfl) rfl
theorem dX10_init_61 : decode cX10_init 61 = .ok (.aload_n 0, 1) := o_42 (u1_13 hc_X10_init_48 rfl) rfl
theorem dX10_init_62 : decode cX10_init 62 = .ok (.getfield 9, 3) := o_180 (u1_14 hc_X10_init_48 rfl) (u2_d (u1_15 hc_X10_init_48 rfl) (u1_16 hc_X10_init_48 rfl) rfl) rfl
theorem hc_X10_init_64 : ((bL cX10_init).drop 64).take 18 = [9, 27, 27, 4, 163, 0, 8, 16, 247, 167, 0, 4, 4, 79, 42, 180, 0, 15] := by decide +kernel
theorem dX10_init_65 : decode cX10_init 65 = .ok (.iload_n 1, 1) := o_27 (u1_1 hc_X10_init_64 rfl) rfl
theorem dX10_init_66 : decode cX10_init 66 = .ok (.iload_n 1, 1) := o_27 (u1_2 hc_X10_init_64 rfl) rfl
theorem dX10_init_67 : decode cX10_init 67 = .ok (.iconst 1, 1) := o_4 (u1_3 hc_X10_init_64 rfl) rfl
theorem dX10_init_68 : decode cX10_init 68 = .ok (.if_icmp .gt 8, 3) := o_163 (u1_4 hc_X10_init_64 rfl) (s2_d (u2_d (u1_5 hc_X10_init_64 rfl) (u1_6 hc_X10_init_64 rfl) rfl) rfl) rfl
theorem dX10_init_71 : decode cX10_init 71 = .ok (.bipush (-9), 2) := o_16 (u1_7 hc_X10_init_64 rfl) (s1_d (u1_8 hc_X10_init_64 rfl) rfl) rfl
theorem dX10_init_73 : decode cX10_init 73 = .ok (.goto 4, 3) := o_167 (u1_9 hc_X10_init_64 rfl) (s2_d (u2_d (u1_10 hc_X10_init_64 rfl) (u1_11 hc_X10_init_64 rfl) rfl) rfl) rfl
theorem dX10_init_76 : decode cX10_init 76 = .ok (.iconst 1, 1) := o_4 (u1_12 hc_X10_init_64 rfl) rfl
theorem dX10_init_77 : decode cX10_init 77 = .ok (.iastore, 1) := o_79 (u1_13 hc_X10_init_64 rfl) rfl
theorem dX10_init_78 : decode cX10_init 78 = .ok (.aload_n 0, 1) := o_42 (u1_14 hc_X10_init_64 rfl) rfl
theorem dX10_init_79 : decode cX10_init 79 = .ok (.getfield 15, 3) := o_180 (u1_15 hc_X10_init_64 rfl) (u2_d (u1_16 hc_X10_init_64 rfl) (u1_17 hc_X10_init_64 rfl) rfl) rfl
theorem hc_X10_init_80 : ((bL cX10_init).drop 80).take 18 = [0, 15, 27, 27, 79, 132, 1, 1, 167, 255, 224, 42, 16, 6, 181, 0, 33, 177] := by decide +kernel
theorem dX10_init_82 : decode cX10_init 82 = .ok (.iload_n 1, 1) := o_27 (u1_2 hc_X10_init_80 rfl) rfl
theorem dX10_init_83 : decode cX10_init 83 = .ok (.iload_n 1, 1) := o_27 (u1_3 hc_X10_init_80 rfl) rfl
theorem dX10_init_84 : decode cX10_init 84 = .ok (.iastore, 1) := o_79 (u1_4 hc_X10_init_80 rfl) rfl
theorem dX10_init_85 : decode cX10_init 85 = .ok (.iinc 1 1, 3) := o_132 (u1_5 hc_X10_init_80 rfl) (u1_6 hc_X10_init_80 rfl) (s1_d (u1_7 hc_X10_init_80 rfl) rfl) rfl
theorem dX10_init_88 : decode cX10_init 88 = .ok (.goto (-32), 3) := o_167 (u1_8 hc_X10_init_80 rfl) (s2_d (u2_d (u1_9 hc_X10_init_80 rfl) (u1_10 hc_X10_init_80 rfl) rfl) rfl) rfl
theorem dX10_init_91 : decode cX10_init 91 = .ok (.aload_n 0, 1) := o_42 (u1_11 hc_X10_init_80 rfl) rfl
theorem dX10_init_92 : decode cX10_init 92 = .ok (.bipush 6, 2) := o_16 (u1_12 hc_X10_init_80 rfl) (s1_d (u1_13 hc_X10_init_80 rfl) rfl) rfl
theorem dX10_init_94 : decode cX10_init 94 = .ok (.putfield 33, 3) := o_181 (u1_14 hc_X10_init_80 rfl) (u2_d (u1_15 hc_X10_init_80 rfl) (u1_16 hc_X10_init_80 rfl) rfl) rfl
theorem hc_X10_init_96 : ((bL cX10_init).drop 96).take 18 = [33, 177] := by decide +kernel
theorem dX10_init_97 : decode cX10_init 97 = .ok (.return_, 1) := o_177 (u1_1 hc_X10_init_96 rfl) rfl
theorem hc_X10_hasKind_0 : ((bL cX10_hasKind).drop 0).take 18 = [27, 155, 0, 15, 27, 42, 180, 0, 33, 162, 0, 7, 4, 167, 0, 4, 3, 172] := by decide +kernel
theorem dX10_hasKind_0 : decode cX10_hasKind 0 = .ok (.iload_n 1, 1) := o_27 (u1_0 hc_X10_hasKind_0 rfl) rfl
theorem dX10_hasKind_1 : decode cX10_hasKind 1 = .ok (.ifCond .lt 15, 3) := o_155 (u1_1 hc_X10_hasKind_0 rfl) (s2_d (u2_d (u1_2 hc_X10_hasKind_0 rfl) (u1_3 hc_X10_hasKind_0 rfl) rfl) rfl) rfl
theorem dX10_hasKind_4 : decode cX10_hasKind 4 = .ok (.iload_n 1, 1) := o_27 (u1_4 hc_X10_hasKind_0 rfl) rfl
theorem dX10_hasKind_5 : decode cX10_hasKind 5 = .ok (.aload_n 0, 1) := o_42 (u1_5 hc_X10_hasKind_0 rfl) rfl
theorem dX10_hasKind_6 : decode cX10_hasKind 6 = .ok (.getfield 33, 3) := o_180 (u1_6 hc_X10_hasKind_0 rfl) (u2_d (u1_7 hc_X10_hasKind_0 rfl) (u1_8 hc_X10_hasKind_0 rfl) rfl) rfl
theorem dX10_hasKind_9 : decode cX10_hasKind 9 = .ok (.if_icmp .ge 7, 3) := o_162 (u1_9 hc_X10_hasKind_0 rfl) (s2_d (u2_d (u1_10 hc_X10_hasKind_0 rfl) (u1_11 hc_X10_hasKind_0 rfl) rfl) rfl) rfl
theorem dX10_hasKind_12 : decode cX10_hasKind 12 = .ok (.iconst 1, 1) := o_4 (u1_12 hc_X10_hasKind_0 rfl) rfl
theorem dX10_hasKind_13 : decode cX10_hasKind 13 = .ok (.goto 4, 3) := o_167 (u1_13 hc_X10_hasKind_0 rfl) (s2_d (u2_d (u1_14 hc_X10_hasKind_0 rfl) (u1_15 hc_X10_hasKind_0 rfl) rfl) rfl) rfl
theorem hc_X10_hasKind_16 : ((bL cX10_hasKind).drop 16).take 18 = [3, 172] := by decide +kernel
theorem dX10_hasKind_16 : decode cX10_hasKind 16 = .ok (.iconst 0, 1) := o_3 (u1_0 hc_X10_hasKind_16 rfl) rfl
theorem dX10_hasKind_17 : decode cX10_hasKind 17 = .ok (.ireturn, 1) := o_172 (u1_1 hc_X10_hasKind_16 rfl) rfl
theorem hc_X10_hasObject_0 : ((bL cX10_hasObject).drop 0).take 18 = [27, 155, 0, 15, 27, 42, 180, 0, 37, 162, 0, 7, 4, 167, 0, 4, 3, 172] := by decide +kernel
theorem dX10_hasObject_0 : decode cX10_hasObject 0 = .ok (.iload_n 1, 1) := o_27 (u1_0 hc_X10_hasObject_0 rfl) rfl
theorem dX10_hasObject_1 : decode cX10_hasObject 1 = .ok (.ifCond .lt 15, 3) := o_155 (u1_1 hc_X10_hasObject_0 rfl) (s2_d (u2_d (u1_2 hc_X10_hasObject_0 rfl) (u1_3 hc_X10_hasObject_0 rfl) rfl) rfl) rfl
theorem dX10_hasObject_4 : decode cX10_hasObject 4 = .ok (.iload_n 1, 1) := o_27 (u1_4 hc_X10_hasObject_0 rfl) rfl
theorem dX10_hasObject_5 : decode cX10_hasObject 5 = .ok (.aload_n 0, 1) := o_42 (u1_5 hc_X10_hasObject_0 rfl) rfl
theorem dX10_hasObject_6 : decode cX10_hasObject 6 = .ok (.getfield 37, 3) := o_180 (u1_6 hc_X10_hasObject_0 rfl) (u2_d (u1_7 hc_X10_hasObject_0 rfl) (u1_8 hc_X10_hasObject_0 rfl) rfl) rfl
theorem dX10_hasObject_9 : decode cX10_hasObject 9 = .ok (.if_icmp .ge 7, 3) := o_162 (u1_9 hc_X10_hasObject_0 rfl) (s2_d (u2_d (u1_10 hc_X10_hasObject_0 rfl) (u1_11 hc_X10_hasObject_0 rfl) rfl) rfl) rfl
theorem dX10_hasObject_12 : decode cX10_hasObject 12 = .ok (.iconst 1, 1) := o_4 (u1_12 hc_X10_hasObject_0 rfl) rfl
theorem dX10_hasObject_13 : decode cX10_hasObject 13 = .ok (.goto 4, 3) := o_167 (u1_13 hc_X10_hasObject_0 rfl) (s2_d (u2_d (u1_14 hc_X10_hasObject_0 rfl) (u1_15 hc_X10_hasObject_0 rfl) rfl) rfl) rfl
theorem hc_X10_hasObject_16 : ((bL cX10_hasObject).drop 16).take 18 = [3, 172] := by decide +kernel
theorem dX10_hasObject_16 : decode cX10_hasObject 16 = .ok (.iconst 0, 1) := o_3 (u1_0 hc_X10_hasObject_16 rfl) rfl
theorem dX10_hasObject_17 : decode cX10_hasObject 17 = .ok (.ireturn, 1) := o_172 (u1_1 hc_X10_hasObject_16 rfl) rfl
theorem hc_X10_addKind_0 : ((bL cX10_addKind).drop 0).take 18 = [42, 180, 0, 9, 42, 180, 0, 33, 27, 79, 42, 180, 0, 15, 42, 180, 0, 33] := by decide +kernel
theorem dX10_addKind_0 : decode cX10_addKind 0 = .ok (.aload_n 0, 1) := o_42 (u1_0 hc_X10_addKind_0 rfl) rfl
theorem dX10_addKind_1 : decode cX10_addKind 1 = .ok (.getfield 9, 3) := o_180 (u1_1 hc_X10_addKind_0 rfl) (u2_d (u1_2 hc_X10_addKind_0 rfl) (u1_3 hc_X10_addKind_0 rfl) rfl) rfl
theorem dX10_addKind_4 : decode cX10_addKind 4 = .ok (.aload_n 0, 1) := o_42 (u1_4 hc_X10_addKind_0 rfl) rfl
theorem dX10_addKind_5 : decode cX10_addKind 5 = .ok (.getfield 33, 3) := o_180 (u1_5 hc_X10_addKind_0 rfl) (u2_d (u1_6 hc_X10_addKind_0 rfl) (u1_7 hc_X10_addKind_0 rfl) rfl) rfl
theorem dX10_addKind_8 : decode cX10_addKind 8 = .ok (.iload_n 1, 1) := o_27 (u1_8 hc_X10_addKind_0 rfl) rfl
theorem dX10_addKind_9 : decode cX10_addKind 9 = .ok (.iastore, 1) := o_79 (u1_9 hc_X10_addKind_0 rfl) rfl
theorem dX10_addKind_10 : decode cX10_addKind 10 = .ok (.aload_n 0, 1) := o_42 (u1_10 hc_X10_addKind_0 rfl) rfl
theorem dX10_addKind_11 : decode cX10_addKind 11 = .ok (.getfield 15, 3) := o_180 (u1_11 hc_X10_addKind_0 rfl) (u2_d (u1_12 hc_X10_addKind_0 rfl) (u1_13 hc_X10_addKind_0 rfl) rfl) rfl
theorem dX10_addKind_14 : decode cX10_addKind 14 = .ok (.aload_n 0, 1) := o_42 (u1_14 hc_X10_addKind_0 rfl) rfl
theorem dX10_addKind_15 : decode cX10_addKind 15 = .ok (.getfield 33, 3) := o_180 (u1_15 hc_X10_addKind_0 rfl) (u2_d (u1_16 hc_X10_addKind_0 rfl) (u1_17 hc_X10_addKind_0 rfl) rfl) rfl
theorem hc_X10_addKind_16 : ((bL cX10_addKind).drop 16).take 18 = [0, 33, 42, 180, 0, 15, 27, 46, 79, 42, 89, 180, 0, 33, 90, 4, 96, 181] := by decide +kernel
theorem dX10_addKind_18 : decode cX10_addKind 18 = .ok (.aload_n 0, 1) := o_42 (u1_2 hc_X10_addKind_16 rfl) rfl
theorem dX10_addKind_19 : decode cX10_addKind 19 = .ok (.getfield 15, 3) := o_180 (u1_3 hc_X10_addKind_16 rfl) (u2_d (u1_4 hc_X10_addKind_16 rfl) (u1_5 hc_X10_addKind_16 rfl) rfl) rfl
theorem dX10_addKind_22 : decode cX10_addKind 22 = .ok (.iload_n 1, 1) := o_27 (u1_6 hc_X10_addKind_16 rfl) rfl
theorem dX10_addKind_23 : decode cX10_addKind 23 = .ok (.iaload, 1) := o_46 (u1_7 hc_X10_addKind_16 rfl) rfl
theorem dX10_addKind_24 : decode cX10_addKind 24 = .ok (.iastore, 1) := o_79 (u1_8 hc_X10_addKind_16 rfl) rfl
theorem dX10_addKind_25 : decode cX10_addKind 25 = .ok (.aload_n 0, 1) := o_42 (u1_9 hc_X10_addKind_16 rfl) rfl
theorem dX10_addKind_26 : decode cX10_addKind 26 = .ok (.dup, 1) := o_89 (u1_10 hc_X10_addKind_16 rfl) rfl
theorem dX10_addKind_27 : decode cX10_addKind 27 = .ok (.getfield 33, 3) := o_180 (u1_11 hc_X10_addKind_16 rfl) (u2_d (u1_12 hc_X10_addKind_16 rfl) (u1_13 hc_X10_addKind_16 rfl) rfl) rfl
theorem dX10_addKind_30 : decode cX10_addKind 30 = .ok (.dup_x1, 1) := o_90 (u1_14 hc_X10_addKind_16 rfl) rfl
theorem dX10_addKind_31 : decode cX10_addKind 31 = .ok (.iconst 1, 1) := o_4 (u1_15 hc_X10_addKind_16 rfl) rfl
theorem hc_X10_addKind_32 : ((bL cX10_addKind).drop 32).take 18 = [96, 181, 0, 33, 172] := by decide +kernel
theorem dX10_addKind_32 : decode cX10_addKind 32 = .ok (.iadd, 1) := o_96 (u1_0 hc_X10_addKind_32 rfl) rfl
theorem dX10_addKind_33 : decode cX10_addKind 33 = .ok (.putfield 33, 3) := o_181 (u1_1 hc_X10_addKind_32 rfl) (u2_d (u1_2 hc_X10_addKind_32 rfl) (u1_3 hc_X10_addKind_32 rfl) rfl) rfl
theorem dX10_addKind_36 : decode cX10_addKind 36 = .ok (.ireturn, 1) := o_172 (u1_4 hc_X10_addKind_32 rfl) rfl
theorem hc_X10_addObject_0 : ((bL cX10_addObject).drop 0).take 18 = [42, 180, 0, 21, 42, 180, 0, 37, 27, 79, 42, 180, 0, 24, 42, 180, 0, 37] := by decide +kernel
theorem dX10_addObject_0 : decode cX10_addObject 0 = .ok (.aload_n 0, 1) := o_42 (u1_0 hc_X10_addObject_0 rfl) rfl
theorem dX10_addObject_1 : decode cX10_addObject 1 = .ok (.getfield 21, 3) := o_180 (u1_1 hc_X10_addObject_0 rfl) (u2_d (u1_2 hc_X10_addObject_0 rfl) (u1_3 hc_X10_addObject_0 rfl) rfl) rfl
theorem dX10_addObject_4 : decode cX10_addObject 4 = .ok (.aload_n 0, 1) := o_42 (u1_4 hc_X10_addObject_0 rfl) rfl
theorem dX10_addObject_5 : decode cX10_addObject 5 = .ok (.getfield 37, 3) := o_180 (u1_5 hc_X10_addObject_0 rfl) (u2_d (u1_6 hc_X10_addObject_0 rfl) (u1_7 hc_X10_addObject_0 rfl) rfl) rfl
theorem dX10_addObject_8 : decode cX10_addObject 8 = .ok (.iload_n 1, 1) := o_27 (u1_8 hc_X10_addObject_0 rfl) rfl
theorem dX10_addObject_9 : decode cX10_addObject 9 = .ok (.iastore, 1) := o_79 (u1_9 hc_X10_addObject_0 rfl) rfl
theorem dX10_addObject_10 : decode cX10_addObject 10 = .ok (.aload_n 0, 1) := o_42 (u1_10 hc_X10_addObject_0 rfl) rfl
theorem dX10_addObject_11 : decode cX10_addObject 11 = .ok (.getfield 24, 3) := o_180 (u1_11 hc_X10_addObject_0 rfl) (u2_d (u1_12 hc_X10_addObject_0 rfl) (u1_13 hc_X10_addObject_0 rfl) rfl) rfl
theorem dX10_addObject_14 : decode cX10_addObject 14 = .ok (.aload_n 0, 1) := o_42 (u1_14 hc_X10_addObject_0 rfl) rfl
theorem dX10_addObject_15 : decode cX10_addObject 15 = .ok (.getfield 37, 3) := o_180 (u1_15 hc_X10_addObject_0 rfl) (u2_d (u1_16 hc_X10_addObject_0 rfl) (u1_17 hc_X10_addObject_0 rfl) rfl) rfl
theorem hc_X10_addObject_16 : ((bL cX10_addObject).drop 16).take 18 = [0, 37, 28, 79, 42, 89, 180, 0, 37, 90, 4, 96, 181, 0, 37, 172] := by decide +kernel
theorem dX10_addObject_18 : decode cX10_addObject 18 = .ok (.iload_n 2, 1) := o_28 (u1_2 hc_X10_addObject_16 rfl) rfl
theorem dX10_addObject_19 : decode cX10_addObject 19 = .ok (.iastore, 1) := o_79 (u1_3 hc_X10_addObject_16 rfl) rfl
theorem dX10_addObject_20 : decode cX10_addObject 20 = .ok (.aload_n 0, 1) := o_42 (u1_4 hc_X10_addObject_16 rfl) rfl
theorem dX10_addObject_21 : decode cX10_addObject 21 = .ok (.dup, 1) := o_89 (u1_5 hc_X10_addObject_16 rfl) rfl
theorem dX10_addObject_22 : decode cX10_addObject 22 = .ok (.getfield 37, 3) := o_180 (u1_6 hc_X10_addObject_16 rfl) (u2_d (u1_7 hc_X10_addObject_16 rfl) (u1_8 hc_X10_addObject_16 rfl) rfl) rfl
theorem dX10_addObject_25 : decode cX10_addObject 25 = .ok (.dup_x1, 1) := o_90 (u1_9 hc_X10_addObject_16 rfl) rfl
theorem dX10_addObject_26 : decode cX10_addObject 26 = .ok (.iconst 1, 1) := o_4 (u1_10 hc_X10_addObject_16 rfl) rfl
theorem dX10_addObject_27 : decode cX10_addObject 27 = .ok (.iadd, 1) := o_96 (u1_11 hc_X10_addObject_16 rfl) rfl
theorem dX10_addObject_28 : decode cX10_addObject 28 = .ok (.putfield 37, 3) := o_181 (u1_12 hc_X10_addObject_16 rfl) (u2_d (u1_13 hc_X10_addObject_16 rfl) (u1_14 hc_X10_addObject_16 rfl) rfl) rfl
theorem dX10_addObject_31 : decode cX10_addObject 31 = .ok (.ireturn, 1) := o_172 (u1_15 hc_X10_addObject_16 rfl) rfl
theorem hc_X10_changeStandard_0 : ((bL cX10_changeStandard).drop 0).take 18 = [42, 180, 0, 18, 27, 16, 6, 104, 28, 96, 46, 54, 4, 42, 180, 0, 18, 27] := by decide +kernel
theorem dX10_changeStandard_0 : decode cX10_changeStandard 0 = .ok (.aload_n 0, 1) := o_42 (u1_0 hc_X10_changeStandard_0 rfl) rfl
theorem dX10_changeStandard_1 : decode cX10_changeStandard 1 = .ok (.getfield 18, 3) := o_180 (u1_1 hc_X10_changeStandard_0 rfl) (u2_d (u1_2 hc_X10_changeStandard_0 rfl) (u1_3 hc_X10_changeStandard_0 rfl) rfl) rfl
theorem dX10_changeStandard_4 : decode cX10_changeStandard 4 = .ok (.iload_n 1, 1) := o_27 (u1_4 hc_X10_changeStandard_0 rfl) rfl
theorem dX10_changeStandard_5 : decode cX10_changeStandard 5 = .ok (.bipush 6, 2) := o_16 (u1_5 hc_X10_changeStandard_0 rfl) (s1_d (u1_6 hc_X10_changeStandard_0 rfl) rfl) rfl
theorem dX10_changeStandard_7 : decode cX10_changeStandard 7 = .ok (.imul, 1) := o_104 (u1_7 hc_X10_changeStandard_0 rfl) rfl
theorem dX10_changeStandard_8 : decode cX10_changeStandard 8 = .ok (.iload_n 2, 1) := o_28 (u1_8 hc_X10_changeStandard_0 rfl) rfl
theorem dX10_changeStandard_9 : decode cX10_changeStandard 9 = .ok (.iadd, 1) := o_96 (u1_9 hc_X10_changeStandard_0 rfl) rfl
theorem dX10_changeStandard_10 : decode cX10_changeStandard 10 = .ok (.iaload, 1) := o_46 (u1_10 hc_X10_changeStandard_0 rfl) rfl
theorem dX10_changeStandard_11 : decode cX10_changeStandard 11 = .ok (.istore 4, 2) := o_54 (u1_11 hc_X10_changeStandard_0 rfl) (u1_12 hc_X10_changeStandard_0 rfl) rfl
theorem dX10_changeStandard_13 : decode cX10_changeStandard 13 = .ok (.aload_n 0, 1) := o_42 (u1_13 hc_X10_changeStandard_0 rfl) rfl
theorem dX10_changeStandard_14 : decode cX10_changeStandard 14 = .ok (.getfield 18, 3) := o_180 (u1_14 hc_X10_changeStandard_0 rfl) (u2_d (u1_15 hc_X10_changeStandard_0 rfl) (u1_16 hc_X10_changeStandard_0 rfl) rfl) rfl
theorem hc_X10_changeStandard_16 : ((bL cX10_changeStandard).drop 16).take 18 = [18, 27, 16, 6, 104, 28, 96, 29, 79, 21, 4, 172] := by decide +kernel
theorem dX10_changeStandard_17 : decode cX10_changeStandard 17 = .ok (.iload_n 1, 1) := o_27 (u1_1 hc_X10_changeStandard_16 rfl) rfl
theorem dX10_changeStandard_18 : decode cX10_changeStandard 18 = .ok (.bipush 6, 2) := o_16 (u1_2 hc_X10_changeStandard_16 rfl) (s1_d (u1_3 hc_X10_changeStandard_16 rfl) rfl) rfl
theorem dX10_changeStandard_20 : decode cX10_changeStandard 20 = .ok (.imul, 1) := o_104 (u1_4 hc_X10_changeStandard_16 rfl) rfl
theorem dX10_changeStandard_21 : decode cX10_changeStandard 21 = .ok (.iload_n 2, 1) := o_28 (u1_5 hc_X10_changeStandard_16 rfl) rfl
theorem dX10_changeStandard_22 : decode cX10_changeStandard 22 = .ok (.iadd, 1) := o_96 (u1_6 hc_X10_changeStandard_16 rfl) rfl
theorem dX10_changeStandard_23 : decode cX10_changeStandard 23 = .ok (.iload_n 3, 1) := o_29 (u1_7 hc_X10_changeStandard_16 rfl) rfl
theorem dX10_changeStandard_24 : decode cX10_changeStandard 24 = .ok (.iastore, 1) := o_79 (u1_8 hc_X10_changeStandard_16 rfl) rfl
theorem dX10_changeStandard_25 : decode cX10_changeStandard 25 = .ok (.iload 4, 2) := o_21 (u1_9 hc_X10_changeStandard_16 rfl) (u1_10 hc_X10_changeStandard_16 rfl) rfl
theorem dX10_changeStandard_27 : decode cX10_changeStandard 27 = .ok (.ireturn, 1) := o_172 (u1_11 hc_X10_changeStandard_16 rfl) rfl
theorem hc_X10_kindIs_0 : ((bL cX10_kindIs).drop 0).take 18 = [27, 62, 3, 54, 4, 21, 4, 16, 24, 162, 0, 29, 29, 16, 247, 159, 0, 23] := by decide +kernel
theorem dX10_kindIs_0 : decode cX10_kindIs 0 = .ok (.iload_n 1, 1) := o_27 (u1_0 hc_X10_kindIs_0 rfl) rfl
theorem dX10_kindIs_1 : decode cX10_kindIs 1 = .ok (.istore_n 3, 1) := o_62 (u1_1 hc_X10_kindIs_0 rfl) rfl
theorem dX10_kindIs_2 : decode cX10_kindIs 2 = .ok (.iconst 0, 1) := o_3 (u1_2 hc_X10_kindIs_0 rfl) rfl
theorem dX10_kindIs_3 : decode cX10_kindIs 3 = .ok (.istore 4, 2) := o_54 (u1_3 hc_X10_kindIs_0 rfl) (u1_4 hc_X10_kindIs_0 rfl) rfl
theorem dX10_kindIs_5 : decode cX10_kindIs 5 = .ok (.iload 4, 2) := o_21 (u1_5 hc_X10_kindIs_0 rfl) (u1_6 hc_X10_kindIs_0 rfl) rfl
theorem dX10_kindIs_7 : decode cX10_kindIs 7 = .ok (.bipush 24, 2) := o_16 (u1_7 hc_X10_kindIs_0 rfl) (s1_d (u1_8 hc_X10_kindIs_0 rfl) rfl) rfl
theorem dX10_kindIs_9 : decode cX10_kindIs 9 = .ok (.if_icmp .ge 29, 3) := o_162 (u1_9 hc_X10_kindIs_0 rfl) (s2_d (u2_d (u1_10 hc_X10_kindIs_0 rfl) (u1_11 hc_X10_kindIs_0 rfl) rfl) rfl) rfl
theorem dX10_kindIs_12 : decode cX10_kindIs 12 = .ok (.iload_n 3, 1) := o_29 (u1_12 hc_X10_kindIs_0 rfl) rfl
theorem dX10_kindIs_13 : decode cX10_kindIs 13 = .ok (.bipush (-9), 2) := o_16 (u1_13 hc_X10_kindIs_0 rfl) (s1_d (u1_14 hc_X10_kindIs_0 rfl) rfl) rfl
theorem dX10_kindIs_15 : decode cX10_kindIs 15 = .ok (.if_icmp .eq 23, 3) := o_159 (u1_15 hc_X10_kindIs_0 rfl) (s2_d (u2_d (u1_16 hc_X10_kindIs_0 rfl) (u1_17 hc_X10_kindIs_0 rfl) rfl) rfl) rfl
theorem hc_X10_kindIs_16 : ((bL cX10_kindIs).drop 16).take 18 = [0, 23, 29, 28, 160, 0, 5, 4, 172, 42, 180, 0, 9, 29, 46, 62, 132, 4] := by decide +kernel
theorem dX10_kindIs_18 : decode cX10_kindIs 18 = .ok (.iload_n 3, 1) := o_29 (u1_2 hc_X10_kindIs_16 rfl) rfl
theorem dX10_kindIs_19 : decode cX10_kindIs 19 = .ok (.iload_n 2, 1) := o_28 (u1_3 hc_X10_kindIs_16 rfl) rfl
theorem dX10_kindIs_20 : decode cX10_kindIs 20 = .ok (.if_icmp .ne 5, 3) := o_160 (u1_4 hc_X10_kindIs_16 rfl) (s2_d (u2_d (u1_5 hc_X10_kindIs_16 rfl) (u1_6 hc_X10_kindIs_16 rfl) rfl) rfl) rfl
theorem dX10_kindIs_23 : decode cX10_kindIs 23 = .ok (.iconst 1, 1) := o_4 (u1_7 hc_X10_kindIs_16 rfl) rfl
theorem dX10_kindIs_24 : decode cX10_kindIs 24 = .ok (.ireturn, 1) := o_172 (u1_8 hc_X10_kindIs_16 rfl) rfl
theorem dX10_kindIs_25 : decode cX10_kindIs 25 = .ok (.aload_n 0, 1) := o_42 (u1_9 hc_X10_kindIs_16 rfl) rfl
theorem dX10_kindIs_26 : decode cX10_kindIs 26 = .ok (.getfield 9, 3) := o_180 (u1_10 hc_X10_kindIs_16 rfl) (u2_d (u1_11 hc_X10_kindIs_16 rfl) (u1_12 hc_X10_kindIs_16 rfl) rfl) rfl
theorem dX10_kindIs_29 : decode cX10_kindIs 29 = .ok (.iload_n 3, 1) := o_29 (u1_13 hc_X10_kindIs_16 rfl) rfl
theorem dX10_kindIs_30 : decode cX10_kindIs 30 = .ok (.iaload, 1) := o_46 (u1_14 hc_X10_kindIs_16 rfl) rfl
theorem dX10_kindIs_31 : decode cX10_kindIs 31 = .ok (.istore_n 3, 1) := o_62 (u1_15 hc_X10_kindIs_16 rfl) rfl
theorem hc_X10_kindIs_32 : ((bL cX10_kindIs).drop 32).take 18 = [132, 4, 1, 167, 255, 226, 3, 172] := by decide +kernel
theorem dX10_kindIs_32 : decode cX10_kindIs 32 = .ok (.iinc 4 1, 3) := o_132 (u1_0 hc_X10_kindIs_32 rfl) (u1_1 hc_X10_kindIs_32 rfl) (s1_d (u1_2 hc_X10_kindIs_32 rfl) rfl) rfl
theorem dX10_kindIs_35 : decode cX10_kindIs 35 = .ok (.goto (-30), 3) := o_167 (u1_3 hc_X10_kindIs_32 rfl) (s2_d (u2_d (u1_4 hc_X10_kindIs_32 rfl) (u1_5 hc_X10_kindIs_32 rfl) rfl) rfl) rfl
theorem dX10_kindIs_38 : decode cX10_kindIs 38 = .ok (.iconst 0, 1) := o_3 (u1_6 hc_X10_kindIs_32 rfl) rfl
theorem dX10_kindIs_39 : decode cX10_kindIs 39 = .ok (.ireturn, 1) := o_172 (u1_7 hc_X10_kindIs_32 rfl) rfl
theorem hc_X10_sortOf_0 : ((bL cX10_sortOf).drop 0).take 18 = [27, 155, 0, 25, 27, 42, 180, 0, 37, 162, 0, 17, 42, 180, 0, 15, 42, 180] := by decide +kernel
theorem dX10_sortOf_0 : decode cX10_sortOf 0 = .ok (.iload_n 1, 1) := o_27 (u1_0 hc_X10_sortOf_0 rfl) rfl
theorem dX10_sortOf_1 : decode cX10_sortOf 1 = .ok (.ifCond .lt 25, 3) := o_155 (u1_1 hc_X10_sortOf_0 rfl) (s2_d (u2_d (u1_2 hc_X10_sortOf_0 rfl) (u1_3 hc_X10_sortOf_0 rfl) rfl) rfl) rfl
theorem dX10_sortOf_4 : decode cX10_sortOf 4 = .ok (.iload_n 1, 1) := o_27 (u1_4 hc_X10_sortOf_0 rfl) rfl
theorem dX10_sortOf_5 : decode cX10_sortOf 5 = .ok (.aload_n 0, 1) := o_42 (u1_5 hc_X10_sortOf_0 rfl) rfl
theorem dX10_sortOf_6 : decode cX10_sortOf 6 = .ok (.getfield 37, 3) := o_180 (u1_6 hc_X10_sortOf_0 rfl) (u2_d (u1_7 hc_X10_sortOf_0 rfl) (u1_8 hc_X10_sortOf_0 rfl) rfl) rfl
theorem dX10_sortOf_9 : decode cX10_sortOf 9 = .ok (.if_icmp .ge 17, 3) := o_162 (u1_9 hc_X10_sortOf_0 rfl) (s2_d (u2_d (u1_10 hc_X10_sortOf_0 rfl) (u1_11 hc_X10_sortOf_0 rfl) rfl) rfl) rfl
theorem dX10_sortOf_12 : decode cX10_sortOf 12 = .ok (.aload_n 0, 1) := o_42 (u1_12 hc_X10_sortOf_0 rfl) rfl
theorem dX10_sortOf_13 : decode cX10_sortOf 13 = .ok (.getfield 15, 3) := o_180 (u1_13 hc_X10_sortOf_0 rfl) (u2_d (u1_14 hc_X10_sortOf_0 rfl) (u1_15 hc_X10_sortOf_0 rfl) rfl) rfl
theorem hc_X10_sortOf_16 : ((bL cX10_sortOf).drop 16).take 18 = [42, 180, 0, 21, 27, 46, 46, 167, 0, 5, 16, 247, 172] := by decide +kernel
theorem dX10_sortOf_16 : decode cX10_sortOf 16 = .ok (.aload_n 0, 1) := o_42 (u1_0 hc_X10_sortOf_16 rfl) rfl
theorem dX10_sortOf_17 : decode cX10_sortOf 17 = .ok (.getfield 21, 3) := o_180 (u1_1 hc_X10_sortOf_16 rfl) (u2_d (u1_2 hc_X10_sortOf_16 rfl) (u1_3 hc_X10_sortOf_16 rfl) rfl) rfl
theorem dX10_sortOf_20 : decode cX10_sortOf 20 = .ok (.iload_n 1, 1) := o_27 (u1_4 hc_X10_sortOf_16 rfl) rfl
theorem dX10_sortOf_21 : decode cX10_sortOf 21 = .ok (.iaload, 1) := o_46 (u1_5 hc_X10_sortOf_16 rfl) rfl
theorem dX10_sortOf_22 : decode cX10_sortOf 22 = .ok (.iaload, 1) := o_46 (u1_6 hc_X10_sortOf_16 rfl) rfl
theorem dX10_sortOf_23 : decode cX10_sortOf 23 = .ok (.goto 5, 3) := o_167 (u1_7 hc_X10_sortOf_16 rfl) (s2_d (u2_d (u1_8 hc_X10_sortOf_16 rfl) (u1_9 hc_X10_sortOf_16 rfl) rfl) rfl) rfl
theorem dX10_sortOf_26 : decode cX10_sortOf 26 = .ok (.bipush (-9), 2) := o_16 (u1_10 hc_X10_sortOf_16 rfl) (s1_d (u1_11 hc_X10_sortOf_16 rfl) rfl) rfl
theorem dX10_sortOf_28 : decode cX10_sortOf 28 = .ok (.ireturn, 1) := o_172 (u1_12 hc_X10_sortOf_16 rfl) rfl
theorem hc_X10_isOfSort_0 : ((bL cX10_isOfSort).drop 0).take 18 = [42, 27, 182, 0, 40, 62, 29, 28, 159, 0, 13, 28, 4, 160, 0, 12, 29, 4] := by decide +kernel
theorem dX10_isOfSort_0 : decode cX10_isOfSort 0 = .ok (.aload_n 0, 1) := o_42 (u1_0 hc_X10_isOfSort_0 rfl) rfl
theorem dX10_isOfSort_1 : decode cX10_isOfSort 1 = .ok (.iload_n 1, 1) := o_27 (u1_1 hc_X10_isOfSort_0 rfl) rfl
theorem dX10_isOfSort_2 : decode cX10_isOfSort 2 = .ok (.invokevirtual 40, 3) := o_182 (u1_2 hc_X10_isOfSort_0 rfl) (u2_d (u1_3 hc_X10_isOfSort_0 rfl) (u1_4 hc_X10_isOfSort_0 rfl) rfl) rfl
theorem dX10_isOfSort_5 : decode cX10_isOfSort 5 = .ok (.istore_n 3, 1) := o_62 (u1_5 hc_X10_isOfSort_0 rfl) rfl
theorem dX10_isOfSort_6 : decode cX10_isOfSort 6 = .ok (.iload_n 3, 1) := o_29 (u1_6 hc_X10_isOfSort_0 rfl) rfl
theorem dX10_isOfSort_7 : decode cX10_isOfSort 7 = .ok (.iload_n 2, 1) := o_28 (u1_7 hc_X10_isOfSort_0 rfl) rfl
theorem dX10_isOfSort_8 : decode cX10_isOfSort 8 = .ok (.if_icmp .eq 13, 3) := o_159 (u1_8 hc_X10_isOfSort_0 rfl) (s2_d (u2_d (u1_9 hc_X10_isOfSort_0 rfl) (u1_10 hc_X10_isOfSort_0 rfl) rfl) rfl) rfl
theorem dX10_isOfSort_11 : decode cX10_isOfSort 11 = .ok (.iload_n 2, 1) := o_28 (u1_11 hc_X10_isOfSort_0 rfl) rfl
theorem dX10_isOfSort_12 : decode cX10_isOfSort 12 = .ok (.iconst 1, 1) := o_4 (u1_12 hc_X10_isOfSort_0 rfl) rfl
theorem dX10_isOfSort_13 : decode cX10_isOfSort 13 = .ok (.if_icmp .ne 12, 3) := o_160 (u1_13 hc_X10_isOfSort_0 rfl) (s2_d (u2_d (u1_14 hc_X10_isOfSort_0 rfl) (u1_15 hc_X10_isOfSort_0 rfl) rfl) rfl) rfl
theorem hc_X10_isOfSort_16 : ((bL cX10_isOfSort).drop 16).take 18 = [29, 4, 164, 0, 7, 4, 167, 0, 4, 3, 172] := by decide +kernel
theorem dX10_isOfSort_16 : decode cX10_isOfSort 16 = .ok (.iload_n 3, 1) := o_29 (u1_0 hc_X10_isOfSort_16 rfl) rfl
theorem dX10_isOfSort_17 : decode cX10_isOfSort 17 = .ok (.iconst 1, 1) := o_4 (u1_1 hc_X10_isOfSort_16 rfl) rfl
theorem dX10_isOfSort_18 : decode cX10_isOfSort 18 = .ok (.if_icmp .le 7, 3) := o_164 (u1_2 hc_X10_isOfSort_16 rfl) (s2_d (u2_d (u1_3 hc_X10_isOfSort_16 rfl) (u1_4 hc_X10_isOfSort_16 rfl) rfl) rfl) rfl
theorem dX10_isOfSort_21 : decode cX10_isOfSort 21 = .ok (.iconst 1, 1) := o_4 (u1_5 hc_X10_isOfSort_16 rfl) rfl
theorem dX10_isOfSort_22 : decode cX10_isOfSort 22 = .ok (.goto 4, 3) := o_167 (u1_6 hc_X10_isOfSort_16 rfl) (s2_d (u2_d (u1_7 hc_X10_isOfSort_16 rfl) (u1_8 hc_X10_isOfSort_16 rfl) rfl) rfl) rfl
theorem dX10_isOfSort_25 : decode cX10_isOfSort 25 = .ok (.iconst 0, 1) := o_3 (u1_9 hc_X10_isOfSort_16 rfl) rfl
theorem dX10_isOfSort_26 : decode cX10_isOfSort 26 = .ok (.ireturn, 1) := o_172 (u1_10 hc_X10_isOfSort_16 rfl) rfl
theorem hc_X10_isMovable_0 : ((bL cX10_isMovable).drop 0).take 18 = [42, 27, 182, 0, 40, 61, 28, 4, 159, 0, 8, 28, 6, 161, 0, 7, 4, 167] := by decide +kernel
theorem dX10_isMovable_0 : decode cX10_isMovable 0 = .ok (.aload_n 0, 1) := o_42 (u1_0 hc_X10_isMovable_0 rfl) rfl
theorem dX10_isMovable_1 : decode cX10_isMovable 1 = .ok (.iload_n 1, 1) := o_27 (u1_1 hc_X10_isMovable_0 rfl) rfl
theorem dX10_isMovable_2 : decode cX10_isMovable 2 = .ok (.invokevirtual 40, 3) := o_182 (u1_2 hc_X10_isMovable_0 rfl) (u2_d (u1_3 hc_X10_isMovable_0 rfl) (u1_4 hc_X10_isMovable_0 rfl) rfl) rfl
theorem dX10_isMovable_5 : decode cX10_isMovable 5 = .ok (.istore_n 2, 1) := o_61 (u1_5 hc_X10_isMovable_0 rfl) rfl
theorem dX10_isMovable_6 : decode cX10_isMovable 6 = .ok (.iload_n 2, 1) := o_28 (u1_6 hc_X10_isMovable_0 rfl) rfl
theorem dX10_isMovable_7 : decode cX10_isMovable 7 = .ok (.iconst 1, 1) := o_4 (u1_7 hc_X10_isMovable_0 rfl) rfl
theorem dX10_isMovable_8 : decode cX10_isMovable 8 = .ok (.if_icmp .eq 8, 3) := o_159 (u1_8 hc_X10_isMovable_0 rfl) (s2_d (u2_d (u1_9 hc_X10_isMovable_0 rfl) (u1_10 hc_X10_isMovable_0 rfl) rfl) rfl) rfl
theorem dX10_isMovable_11 : decode cX10_isMovable 11 = .ok (.iload_n 2, 1) := o_28 (u1_11 hc_X10_isMovable_0 rfl) rfl
theorem dX10_isMovable_12 : decode cX10_isMovable 12 = .ok (.iconst 3, 1) := o_6 (u1_12 hc_X10_isMovable_0 rfl) rfl
theorem dX10_isMovable_13 : decode cX10_isMovable 13 = .ok (.if_icmp .lt 7, 3) := o_161 (u1_13 hc_X10_isMovable_0 rfl) (s2_d (u2_d (u1_14 hc_X10_isMovable_0 rfl) (u1_15 hc_X10_isMovable_0 rfl) rfl) rfl) rfl
theorem hc_X10_isMovable_16 : ((bL cX10_isMovable).drop 16).take 18 = [4, 167, 0, 4, 3, 172] := by decide +kernel
theorem dX10_isMovable_16 : decode cX10_isMovable 16 = .ok (.iconst 1, 1) := o_4 (u1_0 hc_X10_isMovable_16 rfl) rfl
theorem dX10_isMovable_17 : decode cX10_isMovable 17 = .ok (.goto 4, 3) := o_167 (u1_1 hc_X10_isMovable_16 rfl) (s2_d (u2_d (u1_2 hc_X10_isMovable_16 rfl) (u1_3 hc_X10_isMovable_16 rfl) rfl) rfl) rfl
theorem dX10_isMovable_20 : decode cX10_isMovable 20 = .ok (.iconst 0, 1) := o_3 (u1_4 hc_X10_isMovable_16 rfl) rfl
theorem dX10_isMovable_21 : decode cX10_isMovable 21 = .ok (.ireturn, 1) := o_172 (u1_5 hc_X10_isMovable_16 rfl) rfl
theorem hc_X10_isGoods_0 : ((bL cX10_isGoods).drop 0).take 18 = [42, 27, 182, 0, 44, 153, 0, 16, 42, 27, 182, 0, 40, 8, 159, 0, 7, 4] := by decide +kernel
theorem dX10_isGoods_0 : decode cX10_isGoods 0 = .ok (.aload_n 0, 1) := o_42 (u1_0 hc_X10_isGoods_0 rfl) rfl
theorem dX10_isGoods_1 : decode cX10_isGoods 1 = .ok (.iload_n 1, 1) := o_27 (u1_1 hc_X10_isGoods_0 rfl) rfl
theorem dX10_isGoods_2 : decode cX10_isGoods 2 = .ok (.invokevirtual 44, 3) := o_182 (u1_2 hc_X10_isGoods_0 rfl) (u2_d (u1_3 hc_X10_isGoods_0 rfl) (u1_4 hc_X10_isGoods_0 rfl) rfl) rfl
theorem dX10_isGoods_5 : decode cX10_isGoods 5 = .ok (.ifCond .eq 16, 3) := o_153 (u1_5 hc_X10_isGoods_0 rfl) (s2_d (u2_d (u1_6 hc_X10_isGoods_0 rfl) (u1_7 hc_X10_isGoods_0 rfl) rfl) rfl) rfl
theorem dX10_isGoods_8 : decode cX10_isGoods 8 = .ok (.aload_n 0, 1) := o_42 (u1_8 hc_X10_isGoods_0 rfl) rfl
theorem dX10_isGoods_9 : decode cX10_isGoods 9 = .ok (.iload_n 1, 1) := o_27 (u1_9 hc_X10_isGoods_0 rfl) rfl
theorem dX10_isGoods_10 : decode cX10_isGoods 10 = .ok (.invokevirtual 40, 3) := o_182 (u1_10 hc_X10_isGoods_0 rfl) (u2_d (u1_11 hc_X10_isGoods_0 rfl) (u1_12 hc_X10_isGoods_0 rfl) rfl) rfl
theorem dX10_isGoods_13 : decode cX10_isGoods 13 = .ok (.iconst 5, 1) := o_8 (u1_13 hc_X10_isGoods_0 rfl) rfl
theorem dX10_isGoods_14 : decode cX10_isGoods 14 = .ok (.if_icmp .eq 7, 3) := o_159 (u1_14 hc_X10_isGoods_0 rfl) (s2_d (u2_d (u1_15 hc_X10_isGoods_0 rfl) (u1_16 hc_X10_isGoods_0 rfl) rfl) rfl) rfl
theorem hc_X10_isGoods_16 : ((bL cX10_isGoods).drop 16).take 18 = [7, 4, 167, 0, 4, 3, 172] := by decide +kernel
theorem dX10_isGoods_17 : decode cX10_isGoods 17 = .ok (.iconst 1, 1) := o_4 (u1_1 hc_X10_isGoods_16 rfl) rfl
theorem dX10_isGoods_18 : decode cX10_isGoods 18 = .ok (.goto 4, 3) := o_167 (u1_2 hc_X10_isGoods_16 rfl) (s2_d (u2_d (u1_3 hc_X10_isGoods_16 rfl) (u1_4 hc_X10_isGoods_16 rfl) rfl) rfl) rfl
theorem dX10_isGoods_21 : decode cX10_isGoods 21 = .ok (.iconst 0, 1) := o_3 (u1_5 hc_X10_isGoods_16 rfl) rfl
theorem dX10_isGoods_22 : decode cX10_isGoods 22 = .ok (.ireturn, 1) := o_172 (u1_6 hc_X10_isGoods_16 rfl) rfl
theorem hc_X10_isShutter_0 : ((bL cX10_isShutter).drop 0).take 18 = [42, 27, 182, 0, 40, 61, 28, 5, 159, 0, 8, 28, 6, 160, 0, 7, 4, 167] := by decide +kernel
theorem dX10_isShutter_0 : decode cX10_isShutter 0 = .ok (.aload_n 0, 1) := o_42 (u1_0 hc_X10_isShutter_0 rfl) rfl
theorem dX10_isShutter_1 : decode cX10_isShutter 1 = .ok (.iload_n 1, 1) := o_27 (u1_1 hc_X10_isShutter_0 rfl) rfl
theorem dX10_isShutter_2 : decode cX10_isShutter 2 = .ok (.invokevirtual 40, 3) := o_182 (u1_2 hc_X10_isShutter_0 rfl) (u2_d (u1_3 hc_X10_isShutter_0 rfl) (u1_4 hc_X10_isShutter_0 rfl) rfl) rfl
theorem dX10_isShutter_5 : decode cX10_isShutter 5 = .ok (.istore_n 2, 1) := o_61 (u1_5 hc_X10_isShutter_0 rfl) rfl
theorem dX10_isShutter_6 : decode cX10_isShutter 6 = .ok (.iload_n 2, 1) := o_28 (u1_6 hc_X10_isShutter_0 rfl) rfl
theorem dX10_isShutter_7 : decode cX10_isShutter 7 = .ok (.iconst 2, 1) := o_5 (u1_7 hc_X10_isShutter_0 rfl) rfl
theorem dX10_isShutter_8 : decode cX10_isShutter 8 = .ok (.if_icmp .eq 8, 3) := o_159 (u1_8 hc_X10_isShutter_0 rfl) (s2_d (u2_d (u1_9 hc_X10_isShutter_0 rfl) (u1_10 hc_X10_isShutter_0 rfl) rfl) rfl) rfl
theorem dX10_isShutter_11 : decode cX10_isShutter 11 = .ok (.iload_n 2, 1) := o_28 (u1_11 hc_X10_isShutter_0 rfl) rfl
theorem dX10_isShutter_12 : decode cX10_isShutter 12 = .ok (.iconst 3, 1) := o_6 (u1_12 hc_X10_isShutter_0 rfl) rfl
theorem dX10_isShutter_13 : decode cX10_isShutter 13 = .ok (.if_icmp .ne 7, 3) := o_160 (u1_13 hc_X10_isShutter_0 rfl) (s2_d (u2_d (u1_14 hc_X10_isShutter_0 rfl) (u1_15 hc_X10_isShutter_0 rfl) rfl) rfl) rfl
theorem hc_X10_isShutter_16 : ((bL cX10_isShutter).drop 16).take 18 = [4, 167, 0, 4, 3, 172] := by decide +kernel
theorem dX10_isShutter_16 : decode cX10_isShutter 16 = .ok (.iconst 1, 1) := o_4 (u1_0 hc_X10_isShutter_16 rfl) rfl
theorem dX10_isShutter_17 : decode cX10_isShutter 17 = .ok (.goto 4, 3) := o_167 (u1_1 hc_X10_isShutter_16 rfl) (s2_d (u2_d (u1_2 hc_X10_isShutter_16 rfl) (u1_3 hc_X10_isShutter_16 rfl) rfl) rfl) rfl
theorem dX10_isShutter_20 : decode cX10_isShutter 20 = .ok (.iconst 0, 1) := o_3 (u1_4 hc_X10_isShutter_16 rfl) rfl
theorem dX10_isShutter_21 : decode cX10_isShutter 21 = .ok (.ireturn, 1) := o_172 (u1_5 hc_X10_isShutter_16 rfl) rfl
theorem hc_X10_canHave_0 : ((bL cX10_canHave).drop 0).take 18 = [28, 170, 0, 0, 0, 0, 0, 80, 0, 0, 0, 0, 0, 0, 0, 5, 0, 0] := by decide +kernel
theorem dX10_canHave_0 : decode cX10_canHave 0 = .ok (.iload_n 2, 1) := o_28 (u1_0 hc_X10_canHave_0 rfl) rfl
theorem dX10_canHave_1 : decode cX10_canHave 1 = .ok (.tableswitch 80 0 5 #[39, 39, 80, 47, 55, 63], 39) := by decide +kernel
theorem hc_X10_canHave_32 : ((bL cX10_canHave).drop 32).take 18 = [0, 0, 0, 55, 0, 0, 0, 63, 42, 27, 182, 0, 48, 167, 0, 37, 42, 27] := by decide +kernel
theorem dX10_canHave_40 : decode cX10_canHave 40 = .ok (.aload_n 0, 1) := o_42 (u1_8 hc_X10_canHave_32 rfl) rfl
theorem dX10_canHave_41 : decode cX10_canHave 41 = .ok (.iload_n 1, 1) := o_27 (u1_9 hc_X10_canHave_32 rfl) rfl
theorem dX10_canHave_42 : decode cX10_canHave 42 = .ok (.invokevirtual 48, 3) := o_182 (u1_10 hc_X10_canHave_32 rfl) (u2_d (u1_11 hc_X10_canHave_32 rfl) (u1_12 hc_X10_canHave_32 rfl) rfl) rfl
theorem dX10_canHave_45 : decode cX10_canHave 45 = .ok (.goto 37, 3) := o_167 (u1_13 hc_X10_canHave_32 rfl) (s2_d (u2_d (u1_14 hc_X10_canHave_32 rfl) (u1_15 hc_X10_canHave_32 rfl) rfl) rfl) rfl
theorem hc_X10_canHave_48 : ((bL cX10_canHave).drop 48).take 18 = [42, 27, 182, 0, 44, 167, 0, 29, 42, 27, 182, 0, 51, 167, 0, 21, 42, 27] := by decide +kernel
theorem dX10_canHave_48 : decode cX10_canHave 48 = .ok (.aload_n 0, 1) := o_42 (u1_0 hc_X10_canHave_48 rfl) rfl
theorem dX10_canHave_49 : decode cX10_canHave 49 = .ok (.iload_n 1, 1) := o_27 (u1_1 hc_X10_canHave_48 rfl) rfl
theorem dX10_canHave_50 : decode cX10_canHave 50 = .ok (.invokevirtual 44, 3) := o_182 (u1_2 hc_X10_canHave_48 rfl) (u2_d (u1_3 hc_X10_canHave_48 rfl) (u1_4 hc_X10_canHave_48 rfl) rfl) rfl
theorem dX10_canHave_53 : decode cX10_canHave 53 = .ok (.goto 29, 3) := o_167 (u1_5 hc_X10_canHave_48 rfl) (s2_d (u2_d (u1_6 hc_X10_canHave_48 rfl) (u1_7 hc_X10_canHave_48 rfl) rfl) rfl) rfl
theorem dX10_canHave_56 : decode cX10_canHave 56 = .ok (.aload_n 0, 1) := o_42 (u1_8 hc_X10_canHave_48 rfl) rfl
theorem dX10_canHave_57 : decode cX10_canHave 57 = .ok (.iload_n 1, 1) := o_27 (u1_9 hc_X10_canHave_48 rfl) rfl
theorem dX10_canHave_58 : decode cX10_canHave 58 = .ok (.invokevirtual 51, 3) := o_182 (u1_10 hc_X10_canHave_48 rfl) (u2_d (u1_11 hc_X10_canHave_48 rfl) (u1_12 hc_X10_canHave_48 rfl) rfl) rfl
theorem dX10_canHave_61 : decode cX10_canHave 61 = .ok (.goto 21, 3) := o_167 (u1_13 hc_X10_canHave_48 rfl) (s2_d (u2_d (u1_14 hc_X10_canHave_48 rfl) (u1_15 hc_X10_canHave_48 rfl) rfl) rfl) rfl
theorem hc_X10_canHave_64 : ((bL cX10_canHave).drop 64).take 18 = [42, 27, 182, 0, 40, 6, 160, 0, 7, 4, 167, 0, 8, 3, 167, 0, 4, 4] := by decide +kernel
theorem dX10_canHave_64 : decode cX10_canHave 64 = .ok (.aload_n 0, 1) := o_42 (u1_0 hc_X10_canHave_64 rfl) rfl
theorem dX10_canHave_65 : decode cX10_canHave 65 = .ok (.iload_n 1, 1) := o_27 (u1_1 hc_X10_canHave_64 rfl) rfl
theorem dX10_canHave_66 : decode cX10_canHave 66 = .ok (.invokevirtual 40, 3) := o_182 (u1_2 hc_X10_canHave_64 rfl) (u2_d (u1_3 hc_X10_canHave_64 rfl) (u1_4 hc_X10_canHave_64 rfl) rfl) rfl
theorem dX10_canHave_69 : decode cX10_canHave 69 = .ok (.iconst 3, 1) := o_6 (u1_5 hc_X10_canHave_64 rfl) rfl
theorem dX10_canHave_70 : decode cX10_canHave 70 = .ok (.if_icmp .ne 7, 3) := o_160 (u1_6 hc_X10_canHave_64 rfl) (s2_d (u2_d (u1_7 hc_X10_canHave_64 rfl) (u1_8 hc_X10_canHave_64 rfl) rfl) rfl) rfl
theorem dX10_canHave_73 : decode cX10_canHave 73 = .ok (.iconst 1, 1) := o_4 (u1_9 hc_X10_canHave_64 rfl) rfl
theorem dX10_canHave_74 : decode cX10_canHave 74 = .ok (.goto 8, 3) := o_167 (u1_10 hc_X10_canHave_64 rfl) (s2_d (u2_d (u1_11 hc_X10_canHave_64 rfl) (u1_12 hc_X10_canHave_64 rfl) rfl) rfl) rfl
theorem dX10_canHave_77 : decode cX10_canHave 77 = .ok (.iconst 0, 1) := o_3 (u1_13 hc_X10_canHave_64 rfl) rfl
theorem dX10_canHave_78 : decode cX10_canHave 78 = .ok (.goto 4, 3) := o_167 (u1_14 hc_X10_canHave_64 rfl) (s2_d (u2_d (u1_15 hc_X10_canHave_64 rfl) (u1_16 hc_X10_canHave_64 rfl) rfl) rfl) rfl
theorem hc_X10_canHave_80 : ((bL cX10_canHave).drop 80).take 18 = [4, 4, 172] := by decide +kernel
theorem dX10_canHave_81 : decode cX10_canHave 81 = .ok (.iconst 1, 1) := o_4 (u1_1 hc_X10_canHave_80 rfl) rfl
theorem dX10_canHave_82 : decode cX10_canHave 82 = .ok (.ireturn, 1) := o_172 (u1_2 hc_X10_canHave_80 rfl) rfl
theorem hc_X10_standardFor_0 : ((bL cX10_standardFor).drop 0).take 18 = [42, 180, 0, 21, 27, 46, 62, 3, 54, 4, 21, 4, 16, 24, 162, 0, 45, 29] := by decide +kernel
theorem dX10_standardFor_0 : decode cX10_standardFor 0 = .ok (.aload_n 0, 1) := o_42 (u1_0 hc_X10_standardFor_0 rfl) rfl
theorem dX10_standardFor_1 : decode cX10_standardFor 1 = .ok (.getfield 21, 3) := o_180 (u1_1 hc_X10_standardFor_0 rfl) (u2_d (u1_2 hc_X10_standardFor_0 rfl) (u1_3 hc_X10_standardFor_0 rfl) rfl) rfl
theorem dX10_standardFor_4 : decode cX10_standardFor 4 = .ok (.iload_n 1, 1) := o_27 (u1_4 hc_X10_standardFor_0 rfl) rfl
theorem dX10_standardFor_5 : decode cX10_standardFor 5 = .ok (.iaload, 1) := o_46 (u1_5 hc_X10_standardFor_0 rfl) rfl
theorem dX10_standardFor_6 : decode cX10_standardFor 6 = .ok (.istore_n 3, 1) := o_62 (u1_6 hc_X10_standardFor_0 rfl) rfl
theorem dX10_standardFor_7 : decode cX10_standardFor 7 = .ok (.iconst 0, 1) := o_3 (u1_7 hc_X10_standardFor_0 rfl) rfl
theorem dX10_standardFor_8 : decode cX10_standardFor 8 = .ok (.istore 4, 2) := o_54 (u1_8 hc_X10_standardFor_0 rfl) (u1_9 hc_X10_standardFor_0 rfl) rfl
theorem dX10_standardFor_10 : decode cX10_standardFor 10 = .ok (.iload 4, 2) := o_21 (u1_10 hc_X10_standardFor_0 rfl) (u1_11 hc_X10_standardFor_0 rfl) rfl
theorem dX10_standardFor_12 : decode cX10_standardFor 12 = .ok (.bipush 24, 2) := o_16 (u1_12 hc_X10_standardFor_0 rfl) (s1_d (u1_13 hc_X10_standardFor_0 rfl) rfl) rfl
theorem dX10_standardFor_14 : decode cX10_standardFor 14 = .ok (.if_icmp .ge 45, 3) := o_162 (u1_14 hc_X10_standardFor_0 rfl) (s2_d (u2_d (u1_15 hc_X10_standardFor_0 rfl) (u1_16 hc_X10_standardFor_0 rfl) rfl) rfl) rfl
theorem hc_X10_standardFor_16 : ((bL cX10_standardFor).drop 16).take 18 = [45, 29, 16, 247, 159, 0, 39, 42, 180, 0, 18, 29, 16, 6, 104, 28, 96, 46] := by decide +kernel
theorem dX10_standardFor_17 : decode cX10_standardFor 17 = .ok (.iload_n 3, 1) := o_29 (u1_1 hc_X10_standardFor_16 rfl) rfl
theorem dX10_standardFor_18 : decode cX10_standardFor 18 = .ok (.bipush (-9), 2) := o_16 (u1_2 hc_X10_standardFor_16 rfl) (s1_d (u1_3 hc_X10_standardFor_16 rfl) rfl) rfl
theorem dX10_standardFor_20 : decode cX10_standardFor 20 = .ok (.if_icmp .eq 39, 3) := o_159 (u1_4 hc_X10_standardFor_16 rfl) (s2_d (u2_d (u1_5 hc_X10_standardFor_16 rfl) (u1_6 hc_X10_standardFor_16 rfl) rfl) rfl) rfl
theorem dX10_standardFor_23 : decode cX10_standardFor 23 = .ok (.aload_n 0, 1) := o_42 (u1_7 hc_X10_standardFor_16 rfl) rfl
theorem dX10_standardFor_24 : decode cX10_standardFor 24 = .ok (.getfield 18, 3) := o_180 (u1_8 hc_X10_standardFor_16 rfl) (u2_d (u1_9 hc_X10_standardFor_16 rfl) (u1_10 hc_X10_standardFor_16 rfl) rfl) rfl
theorem dX10_standardFor_27 : decode cX10_standardFor 27 = .ok (.iload_n 3, 1) := o_29 (u1_11 hc_X10_standardFor_16 rfl) rfl
theorem dX10_standardFor_28 : decode cX10_standardFor 28 = .ok (.bipush 6, 2) := o_16 (u1_12 hc_X10_standardFor_16 rfl) (s1_d (u1_13 hc_X10_standardFor_16 rfl) rfl) rfl
theorem dX10_standardFor_30 : decode cX10_standardFor 30 = .ok (.imul, 1) := o_104 (u1_14 hc_X10_standardFor_16 rfl) rfl
theorem dX10_standardFor_31 : decode cX10_standardFor 31 = .ok (.iload_n 2, 1) := o_28 (u1_15 hc_X10_standardFor_16 rfl) rfl
theorem hc_X10_standardFor_32 : ((bL cX10_standardFor).drop 32).take 18 = [96, 46, 54, 5, 21, 5, 16, 247, 159, 0, 6, 21, 5, 172, 42, 180, 0, 9] := by decide +kernel
theorem dX10_standardFor_32 : decode cX10_standardFor 32 = .ok (.iadd, 1) := o_96 (u1_0 hc_X10_standardFor_32 rfl) rfl
theorem dX10_standardFor_33 : decode cX10_standardFor 33 = .ok (.iaload, 1) := o_46 (u1_1 hc_X10_standardFor_32 rfl) rfl
theorem dX10_standardFor_34 : decode cX10_standardFor 34 = .ok (.istore 5, 2) := o_54 (u1_2 hc_X10_standardFor_32 rfl) (u1_3 hc_X10_standardFor_32 rfl) rfl
theorem dX10_standardFor_36 : decode cX10_standardFor 36 = .ok (.iload 5, 2) := o_21 (u1_4 hc_X10_standardFor_32 rfl) (u1_5 hc_X10_standardFor_32 rfl) rfl
theorem dX10_standardFor_38 : decode cX10_standardFor 38 = .ok (.bipush (-9), 2) := o_16 (u1_6 hc_X10_standardFor_32 rfl) (s1_d (u1_7 hc_X10_standardFor_32 rfl) rfl) rfl
theorem dX10_standardFor_40 : decode cX10_standardFor 40 = .ok (.if_icmp .eq 6, 3) := o_159 (u1_8 hc_X10_standardFor_32 rfl) (s2_d (u2_d (u1_9 hc_X10_standardFor_32 rfl) (u1_10 hc_X10_standardFor_32 rfl) rfl) rfl) rfl
theorem dX10_standardFor_43 : decode cX10_standardFor 43 = .ok (.iload 5, 2) := o_21 (u1_11 hc_X10_standardFor_32 rfl) (u1_12 hc_X10_standardFor_32 rfl) rfl
theorem dX10_standardFor_45 : decode cX10_standardFor 45 = .ok (.ireturn, 1) := o_172 (u1_13 hc_X10_standardFor_32 rfl) rfl
theorem dX10_standardFor_46 : decode cX10_standardFor 46 = .ok (.aload_n 0, 1) := o_42 (u1_14 hc_X10_standardFor_32 rfl) rfl
theorem dX10_standardFor_47 : decode cX10_standardFor 47 = .ok (.getfield 9, 3) := o_180 (u1_15 hc_X10_standardFor_32 rfl) (u2_d (u1_16 hc_X10_standardFor_32 rfl) (u1_17 hc_X10_standardFor_32 rfl) rfl) rfl
theorem hc_X10_standardFor_48 : ((bL cX10_standardFor).drop 48).take 18 = [0, 9, 29, 46, 62, 132, 4, 1, 167, 255, 210, 28, 5, 160, 0, 15, 42, 27] := by decide +kernel
theorem dX10_standardFor_50 : decode cX10_standardFor 50 = .ok (.iload_n 3, 1) := o_29 (u1_2 hc_X10_standardFor_48 rfl) rfl
theorem dX10_standardFor_51 : decode cX10_standardFor 51 = .ok (.iaload, 1) := o_46 (u1_3 hc_X10_standardFor_48 rfl) rfl
theorem dX10_standardFor_52 : decode cX10_standardFor 52 = .ok (.istore_n 3, 1) := o_62 (u1_4 hc_X10_standardFor_48 rfl) rfl
theorem dX10_standardFor_53 : decode cX10_standardFor 53 = .ok (.iinc 4 1, 3) := o_132 (u1_5 hc_X10_standardFor_48 rfl) (u1_6 hc_X10_standardFor_48 rfl) (s1_d (u1_7 hc_X10_standardFor_48 rfl) rfl) rfl
theorem dX10_standardFor_56 : decode cX10_standardFor 56 = .ok (.goto (-46), 3) := o_167 (u1_8 hc_X10_standardFor_48 rfl) (s2_d (u2_d (u1_9 hc_X10_standardFor_48 rfl) (u1_10 hc_X10_standardFor_48 rfl) rfl) rfl) rfl
theorem dX10_standardFor_59 : decode cX10_standardFor 59 = .ok (.iload_n 2, 1) := o_28 (u1_11 hc_X10_standardFor_48 rfl) rfl
theorem dX10_standardFor_60 : decode cX10_standardFor 60 = .ok (.iconst 2, 1) := o_5 (u1_12 hc_X10_standardFor_48 rfl) rfl
theorem dX10_standardFor_61 : decode cX10_standardFor 61 = .ok (.if_icmp .ne 15, 3) := o_160 (u1_13 hc_X10_standardFor_48 rfl) (s2_d (u2_d (u1_14 hc_X10_standardFor_48 rfl) (u1_15 hc_X10_standardFor_48 rfl) rfl) rfl) rfl
theorem hc_X10_standardFor_64 : ((bL cX10_standardFor).drop 64).take 18 = [42, 27, 182, 0, 40, 154, 0, 7, 4, 167, 0, 4, 3, 172] := by decide +kernel
theorem dX10_standardFor_64 : decode cX10_standardFor 64 = .ok (.aload_n 0, 1) := o_42 (u1_0 hc_X10_standardFor_64 rfl) rfl
theorem dX10_standardFor_65 : decode cX10_standardFor 65 = .ok (.iload_n 1, 1) := o_27 (u1_1 hc_X10_standardFor_64 rfl) rfl
theorem dX10_standardFor_66 : decode cX10_standardFor 66 = .ok (.invokevirtual 40, 3) := o_182 (u1_2 hc_X10_standardFor_64 rfl) (u2_d (u1_3 hc_X10_standardFor_64 rfl) (u1_4 hc_X10_standardFor_64 rfl) rfl) rfl
theorem dX10_standardFor_69 : decode cX10_standardFor 69 = .ok (.ifCond .ne 7, 3) := o_154 (u1_5 hc_X10_standardFor_64 rfl) (s2_d (u2_d (u1_6 hc_X10_standardFor_64 rfl) (u1_7 hc_X10_standardFor_64 rfl) rfl) rfl) rfl
theorem dX10_standardFor_72 : decode cX10_standardFor 72 = .ok (.iconst 1, 1) := o_4 (u1_8 hc_X10_standardFor_64 rfl) rfl
theorem dX10_standardFor_73 : decode cX10_standardFor 73 = .ok (.goto 4, 3) := o_167 (u1_9 hc_X10_standardFor_64 rfl) (s2_d (u2_d (u1_10 hc_X10_standardFor_64 rfl) (u1_11 hc_X10_standardFor_64 rfl) rfl) rfl) rfl
theorem dX10_standardFor_76 : decode cX10_standardFor 76 = .ok (.iconst 0, 1) := o_3 (u1_12 hc_X10_standardFor_64 rfl) rfl
theorem dX10_standardFor_77 : decode cX10_standardFor 77 = .ok (.ireturn, 1) := o_172 (u1_13 hc_X10_standardFor_64 rfl) rfl
theorem hc_X11_init_0 : ((bL cX11_init).drop 0).take 18 = [42, 183, 0, 1, 42, 187, 0, 7, 89, 183, 0, 9, 181, 0, 10, 42, 187, 0] := by decide +kernel
theorem dX11_init_0 : decode cX11_init 0 = .ok (.aload_n 0, 1) := o_42 (u1_0 hc_X11_init_0 rfl) rfl
theorem dX11_init_1 : decode cX11_init 1 = .ok (.invokespecial 1, 3) := o_183 (u1_1 hc_X11_init_0 rfl) (u2_d (u1_2 hc_X11_init_0 rfl) (u1_3 hc_X11_init_0 rfl) rfl) rfl
theorem dX11_init_4 : decode cX11_init 4 = .ok (.aload_n 0, 1) := o_42 (u1_4 hc_X11_init_0 rfl) rfl
theorem dX11_init_5 : decode cX11_init 5 = .ok (.new 7, 3) := o_187 (u1_5 hc_X11_init_0 rfl) (u2_d (u1_6 hc_X11_init_0 rfl) (u1_7 hc_X11_init_0 rfl) rfl) rfl
theorem dX11_init_8 : decode cX11_init 8 = .ok (.dup, 1) := o_89 (u1_8 hc_X11_init_0 rfl) rfl
theorem dX11_init_9 : decode cX11_init 9 = .ok (.invokespecial 9, 3) := o_183 (u1_9 hc_X11_init_0 rfl) (u2_d (u1_10 hc_X11_init_0 rfl) (u1_11 hc_X11_init_0 rfl) rfl) rfl
theorem dX11_init_12 : decode cX11_init 12 = .ok (.putfield 10, 3) := o_181 (u1_12 hc_X11_init_0 rfl) (u2_d (u1_13 hc_X11_init_0 rfl) (u1_14 hc_X11_init_0 rfl) rfl) rfl
theorem dX11_init_15 : decode cX11_init 15 = .ok (.aload_n 0, 1) := o_42 (u1_15 hc_X11_init_0 rfl) rfl
theorem hc_X11_init_16 : ((bL cX11_init).drop 16).take 18 = [187, 0, 16, 89, 42, 180, 0, 10, 183, 0, 18, 181, 0, 21, 42, 187, 0, 25] := by decide +kernel
theorem dX11_init_16 : decode cX11_init 16 = .ok (.new 16, 3) := o_187 (u1_0 hc_X11_init_16 rfl) (u2_d (u1_1 hc_X11_init_16 rfl) (u1_2 hc_X11_init_16 rfl) rfl) rfl
theorem dX11_init_19 : decode cX11_init 19 = .ok (.dup, 1) := o_89 (u1_3 hc_X11_init_16 rfl) rfl
theorem dX11_init_20 : decode cX11_init 20 = .ok (.aload_n 0, 1) := o_42 (u1_4 hc_X11_init_16 rfl) rfl
theorem dX11_init_21 : decode cX11_init 21 = .ok (.getfield 10, 3) := o_180 (u1_5 hc_X11_init_16 rfl) (u2_d (u1_6 hc_X11_init_16 rfl) (u1_7 hc_X11_init_16 rfl) rfl) rfl
theorem dX11_init_24 : decode cX11_init 24 = .ok (.invokespecial 18, 3) := o_183 (u1_8 hc_X11_init_16 rfl) (u2_d (u1_9 hc_X11_init_16 rfl) (u1_10 hc_X11_init_16 rfl) rfl) rfl
theorem dX11_init_27 : decode cX11_init 27 = .ok (.putfield 21, 3) := o_181 (u1_11 hc_X11_init_16 rfl) (u2_d (u1_12 hc_X11_init_16 rfl) (u1_13 hc_X11_init_16 rfl) rfl) rfl
theorem dX11_init_30 : decode cX11_init 30 = .ok (.aload_n 0, 1) := o_42 (u1_14 hc_X11_init_16 rfl) rfl
theorem dX11_init_31 : decode cX11_init 31 = .ok (.new 25, 3) := o_187 (u1_15 hc_X11_init_16 rfl) (u2_d (u1_16 hc_X11_init_16 rfl) (u1_17 hc_X11_init_16 rfl) rfl) rfl
theorem hc_X11_init_32 : ((bL cX11_init).drop 32).take 18 = [0, 25, 89, 42, 180, 0, 10, 42, 180, 0, 21, 183, 0, 27, 181, 0, 30, 42] := by decide +kernel
theorem dX11_init_34 : decode cX11_init 34 = .ok (.dup, 1) := o_89 (u1_2 hc_X11_init_32 rfl) rfl
theorem dX11_init_35 : decode cX11_init 35 = .ok (.aload_n 0, 1) := o_42 (u1_3 hc_X11_init_32 rfl) rfl
theorem dX11_init_36 : decode cX11_init 36 = .ok (.getfield 10, 3) := o_180 (u1_4 hc_X11_init_32 rfl) (u2_d (u1_5 hc_X11_init_32 rfl) (u1_6 hc_X11_init_32 rfl) rfl) rfl
theorem dX11_init_39 : decode cX11_init 39 = .ok (.aload_n 0, 1) := o_42 (u1_7 hc_X11_init_32 rfl) rfl
theorem dX11_init_40 : decode cX11_init 40 = .ok (.getfield 21, 3) := o_180 (u1_8 hc_X11_init_32 rfl) (u2_d (u1_9 hc_X11_init_32 rfl) (u1_10 hc_X11_init_32 rfl) rfl) rfl
theorem dX11_init_43 : decode cX11_init 43 = .ok (.invokespecial 27, 3) := o_183 (u1_11 hc_X11_init_32 rfl) (u2_d (u1_12 hc_X11_init_32 rfl) (u1_13 hc_X11_init_32 rfl) rfl) rfl
theorem dX11_init_46 : decode cX11_init 46 = .ok (.putfield 30, 3) := o_181 (u1_14 hc_X11_init_32 rfl) (u2_d (u1_15 hc_X11_init_32 rfl) (u1_16 hc_X11_init_32 rfl) rfl) rfl
theorem hc_X11_init_48 : ((bL cX11_init).drop 48).take 18 = [30, 42, 187, 0, 34, 89, 42, 180, 0, 10, 183, 0, 36, 181, 0, 37, 42, 187] := by decide +kernel
theorem dX11_init_49 : decode cX11_init 49 = .ok (.aload_n 0, 1) := o_42 (u1_1 hc_X11_init_48 rfl) rfl
theorem dX11_init_50 : decode cX11_init 50 = .ok (.new 34, 3) := o_187 (u1_2 hc_X11_init_48 rfl) (u2_d (u1_3 hc_X11_init_48 rfl) (u1_4 hc_X11_init_48 rfl) rfl) rfl
theorem dX11_init_53 : decode cX11_init 53 = .ok (.dup, 1) := o_89 (u1_5 hc_X11_init_48 rfl) rfl
theorem dX11_init_54 : decode cX11_init 54 = .ok (.aload_n 0, 1) := o_42 (u1_6 hc_X11_init_48 rfl) rfl
theorem dX11_init_55 : decode cX11_init 55 = .ok (.getfield 10, 3) := o_180 (u1_7 hc_X11_init_48 rfl) (u2_d (u1_8 hc_X11_init_48 rfl) (u1_9 hc_X11_init_48 rfl) rfl) rfl
theorem dX11_init_58 : decode cX11_init 58 = .ok (.invokespecial 36, 3) := o_183 (u1_10 hc_X11_init_48 rfl) (u2_d (u1_11 hc_X11_init_48 rfl) (u1_12 hc_X11_init_48 rfl) rfl) rfl
theorem dX11_init_61 : decode cX11_init 61 = .ok (.putfield 37, 3) := o_181 (u1_13 hc_X11_init_48 rfl) (u2_d (u1_14 hc_X11_init_48 rfl) (u1_15 hc_X11_init_48 rfl) rfl) rfl
theorem hc_X11_init_64 : ((bL cX11_init).drop 64).take 18 = [42, 187, 0, 41, 89, 42, 180, 0, 10, 42, 180, 0, 21, 42, 180, 0, 30, 42] := by decide +kernel
theorem dX11_init_64 : decode cX11_init 64 = .ok (.aload_n 0, 1) := o_42 (u1_0 hc_X11_init_64 rfl) rfl
theorem dX11_init_65 : decode cX11_init 65 = .ok (.new 41, 3) := o_187 (u1_1 hc_X11_init_64 rfl) (u2_d (u1_2 hc_X11_init_64 rfl) (u1_3 hc_X11_init_64 rfl) rfl) rfl
theorem dX11_init_68 : decode cX11_init 68 = .ok (.dup, 1) := o_89 (u1_4 hc_X11_init_64 rfl) rfl
theorem dX11_init_69 : decode cX11_init 69 = .ok (.aload_n 0, 1) := o_42 (u1_5 hc_X11_init_64 rfl) rfl
theorem dX11_init_70 : decode cX11_init 70 = .ok (.getfield 10, 3) := o_180 (u1_6 hc_X11_init_64 rfl) (u2_d (u1_7 hc_X11_init_64 rfl) (u1_8 hc_X11_init_64 rfl) rfl) rfl
theorem dX11_init_73 : decode cX11_init 73 = .ok (.aload_n 0, 1) := o_42 (u1_9 hc_X11_init_64 rfl) rfl
theorem dX11_init_74 : decode cX11_init 74 = .ok (.getfield 21, 3) := o_180 (u1_10 hc_X11_init_64 rfl) (u2_d (u1_11 hc_X11_init_64 rfl) (u1_12 hc_X11_init_64 rfl) rfl) rfl
theorem dX11_init_77 : decode cX11_init 77 = .ok (.aload_n 0, 1) := o_42 (u1_13 hc_X11_init_64 rfl) rfl
theorem dX11_init_78 : decode cX11_init 78 = .ok (.getfield 30, 3) := o_180 (u1_14 hc_X11_init_64 rfl) (u2_d (u1_15 hc_X11_init_64 rfl) (u1_16 hc_X11_init_64 rfl) rfl) rfl
theorem hc_X11_init_80 : ((bL cX11_init).drop 80).take 18 = [30, 42, 180, 0, 37, 183, 0, 43, 181, 0, 46, 42, 187, 0, 50, 89, 183, 0] := by decide +kernel
theorem dX11_init_81 : decode cX11_init 81 = .ok (.aload_n 0, 1) := o_42 (u1_1 hc_X11_init_80 rfl) rfl
theorem dX11_init_82 : decode cX11_init 82 = .ok (.getfield 37, 3) := o_180 (u1_2 hc_X11_init_80 rfl) (u2_d (u1_3 hc_X11_init_80 rfl) (u1_4 hc_X11_init_80 rfl) rfl) rfl
theorem dX11_init_85 : decode cX11_init 85 = .ok (.invokespecial 43, 3) := o_183 (u1_5 hc_X11_init_80 rfl) (u2_d (u1_6 hc_X11_init_80 rfl) (u1_7 hc_X11_init_80 rfl) rfl) rfl
theorem dX11_init_88 : decode cX11_init 88 = .ok (.putfield 46, 3) := o_181 (u1_8 hc_X11_init_80 rfl) (u2_d (u1_9 hc_X11_init_80 rfl) (u1_10 hc_X11_init_80 rfl) rfl) rfl
theorem dX11_init_91 : decode cX11_init 91 = .ok (.aload_n 0, 1) := o_42 (u1_11 hc_X11_init_80 rfl) rfl
theorem dX11_init_92 : decode cX11_init 92 = .ok (.new 50, 3) := o_187 (u1_12 hc_X11_init_80 rfl) (u2_d (u1_13 hc_X11_init_80 rfl) (u1_14 hc_X11_init_80 rfl) rfl) rfl
theorem dX11_init_95 : decode cX11_init 95 = .ok (.dup, 1) := o_89 (u1_15 hc_X11_init_80 rfl) rfl
theorem hc_X11_init_96 : ((bL cX11_init).drop 96).take 18 = [183, 0, 52, 181, 0, 53, 42, 187, 0, 57, 89, 183, 0, 59, 181, 0, 60, 42] := by decide +kernel
theorem dX11_init_96 : decode cX11_init 96 = .ok (.invokespecial 52, 3) := o_183 (u1_0 hc_X11_init_96 rfl) (u2_d (u1_1 hc_X11_init_96 rfl) (u1_2 hc_X11_init_96 rfl) rfl) rfl
theorem dX11_init_99 : decode cX11_init 99 = .ok (.putfield 53, 3) := o_181 (u1_3 hc_X11_init_96 rfl) (u2_d (u1_4 hc_X11_init_96 rfl) (u1_5 hc_X11_init_96 rfl) rfl) rfl
theorem dX11_init_102 : decode cX11_init 102 = .ok (.aload_n 0, 1) := o_42 (u1_6 hc_X11_init_96 rfl) rfl
theorem dX11_init_103 : decode cX11_init 103 = .ok (.new 57, 3) := o_187 (u1_7 hc_X11_init_96 rfl) (u2_d (u1_8 hc_X11_init_96 rfl) (u1_9 hc_X11_init_96 rfl) rfl) rfl
theorem dX11_init_106 : decode cX11_init 106 = .ok (.dup, 1) := o_89 (u1_10 hc_X11_init_96 rfl) rfl
theorem dX11_init_107 : decode cX11_init 107 = .ok (.invokespecial 59, 3) := o_183 (u1_11 hc_X11_init_96 rfl) (u2_d (u1_12 hc_X11_init_96 rfl) (u1_13 hc_X11_init_96 rfl) rfl) rfl
theorem dX11_init_110 : decode cX11_init 110 = .ok (.putfield 60, 3) := o_181 (u1_14 hc_X11_init_96 rfl) (u2_d (u1_15 hc_X11_init_96 rfl) (u1_16 hc_X11_init_96 rfl) rfl) rfl
theorem hc_X11_init_112 : ((bL cX11_init).drop 112).take 18 = [60, 42, 1, 181, 0, 64, 42, 16, 7, 188, 10, 181, 0, 68, 42, 3, 181, 0] := by decide +kernel
theorem dX11_init_113 : decode cX11_init 113 = .ok (.aload_n 0, 1) := o_42 (u1_1 hc_X11_init_112 rfl) rfl
theorem dX11_init_114 : decode cX11_init 114 = .ok (.aconst_null, 1) := o_1 (u1_2 hc_X11_init_112 rfl) rfl
theorem dX11_init_115 : decode cX11_init 115 = .ok (.putfield 64, 3) := o_181 (u1_3 hc_X11_init_112 rfl) (u2_d (u1_4 hc_X11_init_112 rfl) (u1_5 hc_X11_init_112 rfl) rfl) rfl
theorem dX11_init_118 : decode cX11_init 118 = .ok (.aload_n 0, 1) := o_42 (u1_6 hc_X11_init_112 rfl) rfl
theorem dX11_init_119 : decode cX11_init 119 = .ok (.bipush 7, 2) := o_16 (u1_7 hc_X11_init_112 rfl) (s1_d (u1_8 hc_X11_init_112 rfl) rfl) rfl
theorem dX11_init_121 : decode cX11_init 121 = .ok (.newarray .int, 2) := o_188_10 (u1_9 hc_X11_init_112 rfl) (u1_10 hc_X11_init_112 rfl) rfl
theorem dX11_init_123 : decode cX11_init 123 = .ok (.putfield 68, 3) := o_181 (u1_11 hc_X11_init_112 rfl) (u2_d (u1_12 hc_X11_init_112 rfl) (u1_13 hc_X11_init_112 rfl) rfl) rfl
theorem dX11_init_126 : decode cX11_init 126 = .ok (.aload_n 0, 1) := o_42 (u1_14 hc_X11_init_112 rfl) rfl
theorem dX11_init_127 : decode cX11_init 127 = .ok (.iconst 0, 1) := o_3 (u1_15 hc_X11_init_112 rfl) rfl
theorem hc_X11_init_128 : ((bL cX11_init).drop 128).take 18 = [181, 0, 72, 42, 9, 181, 0, 76, 177] := by decide +kernel
theorem dX11_init_128 : decode cX11_init 128 = .ok (.putfield 72, 3) := o_181 (u1_0 hc_X11_init_128 rfl) (u2_d (u1_1 hc_X11_init_128 rfl) (u1_2 hc_X11_init_128 rfl) rfl) rfl
theorem dX11_init_131 : decode cX11_init 131 = .ok (.aload_n 0, 1) := o_42 (u1_3 hc_X11_init_128 rfl) rfl
theorem dX11_init_132 : decode cX11_init 132 = .ok (.lconst 0, 1) := o_9 (u1_4 hc_X11_init_128 rfl) rfl
theorem dX11_init_133 : decode cX11_init 133 = .ok (.putfield 76, 3) := o_181 (u1_5 hc_X11_init_128 rfl) (u2_d (u1_6 hc_X11_init_128 rfl) (u1_7 hc_X11_init_128 rfl) rfl) rfl
theorem dX11_init_136 : decode cX11_init 136 = .ok (.return_, 1) := o_177 (u1_8 hc_X11_init_128 rfl) rfl
theorem hc_X11_kind_0 : ((bL cX11_kind).drop 0).take 18 = [42, 180, 0, 10, 27, 182, 0, 80, 154, 0, 5, 2, 172, 42, 180, 0, 10, 180] := by decide +kernel
theorem dX11_kind_0 : decode cX11_kind 0 = .ok (.aload_n 0, 1) := o_42 (u1_0 hc_X11_kind_0 rfl) rfl
theorem dX11_kind_1 : decode cX11_kind 1 = .ok (.getfield 10, 3) := o_180 (u1_1 hc_X11_kind_0 rfl) (u2_d (u1_2 hc_X11_kind_0 rfl) (u1_3 hc_X11_kind_0 rfl) rfl) rfl
theorem dX11_kind_4 : decode cX11_kind 4 = .ok (.iload_n 1, 1) := o_27 (u1_4 hc_X11_kind_0 rfl) rfl
theorem dX11_kind_5 : decode cX11_kind 5 = .ok (.invokevirtual 80, 3) := o_182 (u1_5 hc_X11_kind_0 rfl) (u2_d (u1_6 hc_X11_kind_0 rfl) (u1_7 hc_X11_kind_0 rfl) rfl) rfl
theorem dX11_kind_8 : decode cX11_kind 8 = .ok (.ifCond .ne 5, 3) := o_154 (u1_8 hc_X11_kind_0 rfl) (s2_d (u2_d (u1_9 hc_X11_kind_0 rfl) (u1_10 hc_X11_kind_0 rfl) rfl) rfl) rfl
theorem dX11_kind_11 : decode cX11_kind 11 = .ok (.iconst (-1), 1) := o_2 (u1_11 hc_X11_kind_0 rfl) rfl
theorem dX11_kind_12 : decode cX11_kind 12 = .ok (.ireturn, 1) := o_172 (u1_12 hc_X11_kind_0 rfl) rfl
theorem dX11_kind_13 : decode cX11_kind 13 = .ok (.aload_n 0, 1) := o_42 (u1_13 hc_X11_kind_0 rfl) rfl
theorem dX11_kind_14 : decode cX11_kind 14 = .ok (.getfield 10, 3) := o_180 (u1_14 hc_X11_kind_0 rfl) (u2_d (u1_15 hc_X11_kind_0 rfl) (u1_16 hc_X11_kind_0 rfl) rfl) rfl
theorem hc_X11_kind_16 : ((bL cX11_kind).drop 16).take 18 = [10, 180, 0, 84, 16, 24, 161, 0, 6, 16, 254, 172, 42, 180, 0, 10, 27, 182] := by decide +kernel
theorem dX11_kind_17 : decode cX11_kind 17 = .ok (.getfield 84, 3) := o_180 (u1_1 hc_X11_kind_16 rfl) (u2_d (u1_2 hc_X11_kind_16 rfl) (u1_3 hc_X11_kind_16 rfl) rfl) rfl
theorem dX11_kind_20 : decode cX11_kind 20 = .ok (.bipush 24, 2) := o_16 (u1_4 hc_X11_kind_16 rfl) (s1_d (u1_5 hc_X11_kind_16 rfl) rfl) rfl
theorem dX11_kind_22 : decode cX11_kind 22 = .ok (.if_icmp .lt 6, 3) := o_161 (u1_6 hc_X11_kind_16 rfl) (s2_d (u2_d (u1_7 hc_X11_kind_16 rfl) (u1_8 hc_X11_kind_16 rfl) rfl) rfl) rfl
theorem dX11_kind_25 : decode cX11_kind 25 = .ok (.bipush (-2), 2) := o_16 (u1_9 hc_X11_kind_16 rfl) (s1_d (u1_10 hc_X11_kind_16 rfl) rfl) rfl
theorem dX11_kind_27 : decode cX11_kind 27 = .ok (.ireturn, 1) := o_172 (u1_11 hc_X11_kind_16 rfl) rfl
theorem dX11_kind_28 : decode cX11_kind 28 = .ok (.aload_n 0, 1) := o_42 (u1_12 hc_X11_kind_16 rfl) rfl
theorem dX11_kind_29 : decode cX11_kind 29 = .ok (.getfield 10, 3) := o_180 (u1_13 hc_X11_kind_16 rfl) (u2_d (u1_14 hc_X11_kind_16 rfl) (u1_15 hc_X11_kind_16 rfl) rfl) rfl
theorem hc_X11_kind_32 : ((bL cX11_kind).drop 32).take 18 = [27, 182, 0, 87, 172] := by decide +kernel
theorem dX11_kind_32 : decode cX11_kind 32 = .ok (.iload_n 1, 1) := o_27 (u1_0 hc_X11_kind_32 rfl) rfl
theorem dX11_kind_33 : decode cX11_kind 33 = .ok (.invokevirtual 87, 3) := o_182 (u1_1 hc_X11_kind_32 rfl) (u2_d (u1_2 hc_X11_kind_32 rfl) (u1_3 hc_X11_kind_32 rfl) rfl) rfl
theorem dX11_kind_36 : decode cX11_kind 36 = .ok (.ireturn, 1) := o_172 (u1_4 hc_X11_kind_32 rfl) rfl
theorem hc_X11_standard_0 : ((bL cX11_standard).drop 0).take 18 = [42, 180, 0, 10, 27, 182, 0, 80, 153, 0, 27, 28, 16, 6, 184, 0, 91, 153] := by decide +kernel
theorem dX11_standard_0 : decode cX11_standard 0 = .ok (.aload_n 0, 1) := o_42 (u1_0 hc_X11_standard_0 rfl) rfl
theorem dX11_standard_1 : decode cX11_standard 1 = .ok (.getfield 10, 3) := o_180 (u1_1 hc_X11_standard_0 rfl) (u2_d (u1_2 hc_X11_standard_0 rfl) (u1_3 hc_X11_standard_0 rfl) rfl) rfl
theorem dX11_standard_4 : decode cX11_standard 4 = .ok (.iload_n 1, 1) := o_27 (u1_4 hc_X11_standard_0 rfl) rfl
theorem dX11_standard_5 : decode cX11_standard 5 = .ok (.invokevirtual 80, 3) := o_182 (u1_5 hc_X11_standard_0 rfl) (u2_d (u1_6 hc_X11_standard_0 rfl) (u1_7 hc_X11_standard_0 rfl) rfl) rfl
theorem dX11_standard_8 : decode cX11_standard 8 = .ok (.ifCond .eq 27, 3) := o_153 (u1_8 hc_X11_standard_0 rfl) (s2_d (u2_d (u1_9 hc_X11_standard_0 rfl) (u1_10 hc_X11_standard_0 rfl) rfl) rfl) rfl
theorem dX11_standard_11 : decode cX11_standard 11 = .ok (.iload_n 2, 1) := o_28 (u1_11 hc_X11_standard_0 rfl) rfl
theorem dX11_standard_12 : decode cX11_standard 12 = .ok (.bipush 6, 2) := o_16 (u1_12 hc_X11_standard_0 rfl) (s1_d (u1_13 hc_X11_standard_0 rfl) rfl) rfl
theorem dX11_standard_14 : decode cX11_standard 14 = .ok (.invokestatic 91, 3) := o_184 (u1_14 hc_X11_standard_0 rfl) (u2_d (u1_15 hc_X11_standard_0 rfl) (u1_16 hc_X11_standard_0 rfl) rfl) rfl
theorem hc_X11_standard_16 : ((bL cX11_standard).drop 16).take 18 = [91, 153, 0, 18, 29, 153, 0, 16, 29, 4, 159, 0, 11, 29, 16, 247, 159, 0] := by decide +kernel
theorem dX11_standard_17 : decode cX11_standard 17 = .ok (.ifCond .eq 18, 3) := o_153 (u1_1 hc_X11_standard_16 rfl) (s2_d (u2_d (u1_2 hc_X11_standard_16 rfl) (u1_3 hc_X11_standard_16 rfl) rfl) rfl) rfl
theorem dX11_standard_20 : decode cX11_standard 20 = .ok (.iload_n 3, 1) := o_29 (u1_4 hc_X11_standard_16 rfl) rfl
theorem dX11_standard_21 : decode cX11_standard 21 = .ok (.ifCond .eq 16, 3) := o_153 (u1_5 hc_X11_standard_16 rfl) (s2_d (u2_d (u1_6 hc_X11_standard_16 rfl) (u1_7 hc_X11_standard_16 rfl) rfl) rfl) rfl
theorem dX11_standard_24 : decode cX11_standard 24 = .ok (.iload_n 3, 1) := o_29 (u1_8 hc_X11_standard_16 rfl) rfl
theorem dX11_standard_25 : decode cX11_standard 25 = .ok (.iconst 1, 1) := o_4 (u1_9 hc_X11_standard_16 rfl) rfl
theorem dX11_standard_26 : decode cX11_standard 26 = .ok (.if_icmp .eq 11, 3) := o_159 (u1_10 hc_X11_standard_16 rfl) (s2_d (u2_d (u1_11 hc_X11_standard_16 rfl) (u1_12 hc_X11_standard_16 rfl) rfl) rfl) rfl
theorem dX11_standard_29 : decode cX11_standard 29 = .ok (.iload_n 3, 1) := o_29 (u1_13 hc_X11_standard_16 rfl) rfl
theorem dX11_standard_30 : decode cX11_standard 30 = .ok (.bipush (-9), 2) := o_16 (u1_14 hc_X11_standard_16 rfl) (s1_d (u1_15 hc_X11_standard_16 rfl) rfl) rfl
theorem hc_X11_standard_32 : ((bL cX11_standard).drop 32).take 18 = [159, 0, 5, 2, 172, 42, 180, 0, 46, 182, 0, 95, 42, 180, 0, 10, 27, 28] := by decide +kernel
theorem dX11_standard_32 : decode cX11_standard 32 = .ok (.if_icmp .eq 5, 3) := o_159 (u1_0 hc_X11_standard_32 rfl) (s2_d (u2_d (u1_1 hc_X11_standard_32 rfl) (u1_2 hc_X11_standard_32 rfl) rfl) rfl) rfl
theorem dX11_standard_35 : decode cX11_standard 35 = .ok (.iconst (-1), 1) := o_2 (u1_3 hc_X11_standard_32 rfl) rfl
theorem dX11_standard_36 : decode cX11_standard 36 = .ok (.ireturn, 1) := o_172 (u1_4 hc_X11_standard_32 rfl) rfl
theorem dX11_standard_37 : decode cX11_standard 37 = .ok (.aload_n 0, 1) := o_42 (u1_5 hc_X11_standard_32 rfl) rfl
theorem dX11_standard_38 : decode cX11_standard 38 = .ok (.getfield 46, 3) := o_180 (u1_6 hc_X11_standard_32 rfl) (u2_d (u1_7 hc_X11_standard_32 rfl) (u1_8 hc_X11_standard_32 rfl) rfl) rfl
theorem dX11_standard_41 : decode cX11_standard 41 = .ok (.invokevirtual 95, 3) := o_182 (u1_9 hc_X11_standard_32 rfl) (u2_d (u1_10 hc_X11_standard_32 rfl) (u1_11 hc_X11_standard_32 rfl) rfl) rfl
theorem dX11_standard_44 : decode cX11_standard 44 = .ok (.aload_n 0, 1) := o_42 (u1_12 hc_X11_standard_32 rfl) rfl
theorem dX11_standard_45 : decode cX11_standard 45 = .ok (.getfield 10, 3) := o_180 (u1_13 hc_X11_standard_32 rfl) (u2_d (u1_14 hc_X11_standard_32 rfl) (u1_15 hc_X11_standard_32 rfl) rfl) rfl
theorem hc_X11_standard_48 : ((bL cX11_standard).drop 48).take 18 = [27, 28, 29, 182, 0, 98, 172] := by decide +kernel
theorem dX11_standard_48 : decode cX11_standard 48 = .ok (.iload_n 1, 1) := o_27 (u1_0 hc_X11_standard_48 rfl) rfl
theorem dX11_standard_49 : decode cX11_standard 49 = .ok (.iload_n 2, 1) := o_28 (u1_1 hc_X11_standard_48 rfl) rfl
theorem dX11_standard_50 : decode cX11_standard 50 = .ok (.iload_n 3, 1) := o_29 (u1_2 hc_X11_standard_48 rfl) rfl
theorem dX11_standard_51 : decode cX11_standard 51 = .ok (.invokevirtual 98, 3) := o_182 (u1_3 hc_X11_standard_48 rfl) (u2_d (u1_4 hc_X11_standard_48 rfl) (u1_5 hc_X11_standard_48 rfl) rfl) rfl
theorem dX11_standard_54 : decode cX11_standard 54 = .ok (.ireturn, 1) := o_172 (u1_6 hc_X11_standard_48 rfl) rfl
theorem hc_X11_make_0 : ((bL cX11_make).drop 0).take 18 = [42, 180, 0, 10, 27, 182, 0, 80, 153, 0, 13, 28, 155, 0, 9, 28, 16, 99] := by decide +kernel
theorem dX11_make_0 : decode cX11_make 0 = .ok (.aload_n 0, 1) := o_42 (u1_0 hc_X11_make_0 rfl) rfl
theorem dX11_make_1 : decode cX11_make 1 = .ok (.getfield 10, 3) := o_180 (u1_1 hc_X11_make_0 rfl) (u2_d (u1_2 hc_X11_make_0 rfl) (u1_3 hc_X11_make_0 rfl) rfl) rfl
theorem dX11_make_4 : decode cX11_make 4 = .ok (.iload_n 1, 1) := o_27 (u1_4 hc_X11_make_0 rfl) rfl
theorem dX11_make_5 : decode cX11_make 5 = .ok (.invokevirtual 80, 3) := o_182 (u1_5 hc_X11_make_0 rfl) (u2_d (u1_6 hc_X11_make_0 rfl) (u1_7 hc_X11_make_0 rfl) rfl) rfl
theorem dX11_make_8 : decode cX11_make 8 = .ok (.ifCond .eq 13, 3) := o_153 (u1_8 hc_X11_make_0 rfl) (s2_d (u2_d (u1_9 hc_X11_make_0 rfl) (u1_10 hc_X11_make_0 rfl) rfl) rfl) rfl
theorem dX11_make_11 : decode cX11_make 11 = .ok (.iload_n 2, 1) := o_28 (u1_11 hc_X11_make_0 rfl) rfl
theorem dX11_make_12 : decode cX11_make 12 = .ok (.ifCond .lt 9, 3) := o_155 (u1_12 hc_X11_make_0 rfl) (s2_d (u2_d (u1_13 hc_X11_make_0 rfl) (u1_14 hc_X11_make_0 rfl) rfl) rfl) rfl
theorem dX11_make_15 : decode cX11_make 15 = .ok (.iload_n 2, 1) := o_28 (u1_15 hc_X11_make_0 rfl) rfl
theorem hc_X11_make_16 : ((bL cX11_make).drop 16).take 18 = [16, 99, 164, 0, 5, 2, 172, 42, 180, 0, 10, 180, 0, 102, 16, 30, 161, 0] := by decide +kernel
theorem dX11_make_16 : decode cX11_make 16 = .ok (.bipush 99, 2) := o_16 (u1_0 hc_X11_make_16 rfl) (s1_d (u1_1 hc_X11_make_16 rfl) rfl) rfl
theorem dX11_make_18 : decode cX11_make 18 = .ok (.if_icmp .le 5, 3) := o_164 (u1_2 hc_X11_make_16 rfl) (s2_d (u2_d (u1_3 hc_X11_make_16 rfl) (u1_4 hc_X11_make_16 rfl) rfl) rfl) rfl
theorem dX11_make_21 : decode cX11_make 21 = .ok (.iconst (-1), 1) := o_2 (u1_5 hc_X11_make_16 rfl) rfl
theorem dX11_make_22 : decode cX11_make 22 = .ok (.ireturn, 1) := o_172 (u1_6 hc_X11_make_16 rfl) rfl
theorem dX11_make_23 : decode cX11_make 23 = .ok (.aload_n 0, 1) := o_42 (u1_7 hc_X11_make_16 rfl) rfl
theorem dX11_make_24 : decode cX11_make 24 = .ok (.getfield 10, 3) := o_180 (u1_8 hc_X11_make_16 rfl) (u2_d (u1_9 hc_X11_make_16 rfl) (u1_10 hc_X11_make_16 rfl) rfl) rfl
theorem dX11_make_27 : decode cX11_make 27 = .ok (.getfield 102, 3) := o_180 (u1_11 hc_X11_make_16 rfl) (u2_d (u1_12 hc_X11_make_16 rfl) (u1_13 hc_X11_make_16 rfl) rfl) rfl
theorem dX11_make_30 : decode cX11_make 30 = .ok (.bipush 30, 2) := o_16 (u1_14 hc_X11_make_16 rfl) (s1_d (u1_15 hc_X11_make_16 rfl) rfl) rfl
theorem hc_X11_make_32 : ((bL cX11_make).drop 32).take 18 = [161, 0, 6, 16, 254, 172, 42, 180, 0, 46, 182, 0, 95, 42, 180, 0, 10, 27] := by decide +kernel
theorem dX11_make_32 : decode cX11_make 32 = .ok (.if_icmp .lt 6, 3) := o_161 (u1_0 hc_X11_make_32 rfl) (s2_d (u2_d (u1_1 hc_X11_make_32 rfl) (u1_2 hc_X11_make_32 rfl) rfl) rfl) rfl
theorem dX11_make_35 : decode cX11_make 35 = .ok (.bipush (-2), 2) := o_16 (u1_3 hc_X11_make_32 rfl) (s1_d (u1_4 hc_X11_make_32 rfl) rfl) rfl
theorem dX11_make_37 : decode cX11_make 37 = .ok (.ireturn, 1) := o_172 (u1_5 hc_X11_make_32 rfl) rfl
theorem dX11_make_38 : decode cX11_make 38 = .ok (.aload_n 0, 1) := o_42 (u1_6 hc_X11_make_32 rfl) rfl
theorem dX11_make_39 : decode cX11_make 39 = .ok (.getfield 46, 3) := o_180 (u1_7 hc_X11_make_32 rfl) (u2_d (u1_8 hc_X11_make_32 rfl) (u1_9 hc_X11_make_32 rfl) rfl) rfl
theorem dX11_make_42 : decode cX11_make 42 = .ok (.invokevirtual 95, 3) := o_182 (u1_10 hc_X11_make_32 rfl) (u2_d (u1_11 hc_X11_make_32 rfl) (u1_12 hc_X11_make_32 rfl) rfl) rfl
theorem dX11_make_45 : decode cX11_make 45 = .ok (.aload_n 0, 1) := o_42 (u1_13 hc_X11_make_32 rfl) rfl
theorem dX11_make_46 : decode cX11_make 46 = .ok (.getfield 10, 3) := o_180 (u1_14 hc_X11_make_32 rfl) (u2_d (u1_15 hc_X11_make_32 rfl) (u1_16 hc_X11_make_32 rfl) rfl) rfl
theorem hc_X11_make_48 : ((bL cX11_make).drop 48).take 18 = [10, 27, 28, 182, 0, 105, 172] := by decide +kernel
theorem dX11_make_49 : decode cX11_make 49 = .ok (.iload_n 1, 1) := o_27 (u1_1 hc_X11_make_48 rfl) rfl
theorem dX11_make_50 : decode cX11_make 50 = .ok (.iload_n 2, 1) := o_28 (u1_2 hc_X11_make_48 rfl) rfl
theorem dX11_make_51 : decode cX11_make 51 = .ok (.invokevirtual 105, 3) := o_182 (u1_3 hc_X11_make_48 rfl) (u2_d (u1_4 hc_X11_make_48 rfl) (u1_5 hc_X11_make_48 rfl) rfl) rfl
theorem dX11_make_54 : decode cX11_make 54 = .ok (.ireturn, 1) := o_172 (u1_6 hc_X11_make_48 rfl) rfl
theorem hc_X11_is_0 : ((bL cX11_is).drop 0).take 18 = [42, 180, 0, 10, 27, 182, 0, 109, 153, 0, 14, 42, 180, 0, 10, 28, 182, 0] := by decide +kernel
theorem dX11_is_0 : decode cX11_is 0 = .ok (.aload_n 0, 1) := o_42 (u1_0 hc_X11_is_0 rfl) rfl
theorem dX11_is_1 : decode cX11_is 1 = .ok (.getfield 10, 3) := o_180 (u1_1 hc_X11_is_0 rfl) (u2_d (u1_2 hc_X11_is_0 rfl) (u1_3 hc_X11_is_0 rfl) rfl) rfl
theorem dX11_is_4 : decode cX11_is 4 = .ok (.iload_n 1, 1) := o_27 (u1_4 hc_X11_is_0 rfl) rfl
theorem dX11_is_5 : decode cX11_is 5 = .ok (.invokevirtual 109, 3) := o_182 (u1_5 hc_X11_is_0 rfl) (u2_d (u1_6 hc_X11_is_0 rfl) (u1_7 hc_X11_is_0 rfl) rfl) rfl
theorem dX11_is_8 : decode cX11_is 8 = .ok (.ifCond .eq 14, 3) := o_153 (u1_8 hc_X11_is_0 rfl) (s2_d (u2_d (u1_9 hc_X11_is_0 rfl) (u1_10 hc_X11_is_0 rfl) rfl) rfl) rfl
theorem dX11_is_11 : decode cX11_is 11 = .ok (.aload_n 0, 1) := o_42 (u1_11 hc_X11_is_0 rfl) rfl
theorem dX11_is_12 : decode cX11_is 12 = .ok (.getfield 10, 3) := o_180 (u1_12 hc_X11_is_0 rfl) (u2_d (u1_13 hc_X11_is_0 rfl) (u1_14 hc_X11_is_0 rfl) rfl) rfl
theorem dX11_is_15 : decode cX11_is 15 = .ok (.iload_n 2, 1) := o_28 (u1_15 hc_X11_is_0 rfl) rfl
theorem hc_X11_is_16 : ((bL cX11_is).drop 16).take 18 = [182, 0, 80, 154, 0, 5, 2, 172, 42, 180, 0, 10, 42, 180, 0, 10, 180, 0] := by decide +kernel
theorem dX11_is_16 : decode cX11_is 16 = .ok (.invokevirtual 80, 3) := o_182 (u1_0 hc_X11_is_16 rfl) (u2_d (u1_1 hc_X11_is_16 rfl) (u1_2 hc_X11_is_16 rfl) rfl) rfl
theorem dX11_is_19 : decode cX11_is 19 = .ok (.ifCond .ne 5, 3) := o_154 (u1_3 hc_X11_is_16 rfl) (s2_d (u2_d (u1_4 hc_X11_is_16 rfl) (u1_5 hc_X11_is_16 rfl) rfl) rfl) rfl
theorem dX11_is_22 : decode cX11_is 22 = .ok (.iconst (-1), 1) := o_2 (u1_6 hc_X11_is_16 rfl) rfl
theorem dX11_is_23 : decode cX11_is 23 = .ok (.ireturn, 1) := o_172 (u1_7 hc_X11_is_16 rfl) rfl
theorem dX11_is_24 : decode cX11_is 24 = .ok (.aload_n 0, 1) := o_42 (u1_8 hc_X11_is_16 rfl) rfl
theorem dX11_is_25 : decode cX11_is 25 = .ok (.getfield 10, 3) := o_180 (u1_9 hc_X11_is_16 rfl) (u2_d (u1_10 hc_X11_is_16 rfl) (u1_11 hc_X11_is_16 rfl) rfl) rfl
theorem dX11_is_28 : decode cX11_is 28 = .ok (.aload_n 0, 1) := o_42 (u1_12 hc_X11_is_16 rfl) rfl
theorem dX11_is_29 : decode cX11_is 29 = .ok (.getfield 10, 3) := o_180 (u1_13 hc_X11_is_16 rfl) (u2_d (u1_14 hc_X11_is_16 rfl) (u1_15 hc_X11_is_16 rfl) rfl) rfl
theorem hc_X11_is_32 : ((bL cX11_is).drop 32).take 18 = [180, 0, 112, 27, 46, 28, 182, 0, 115, 184, 0, 118, 172] := by decide +kernel
theorem dX11_is_32 : decode cX11_is 32 = .ok (.getfield 112, 3) := o_180 (u1_0 hc_X11_is_32 rfl) (u2_d (u1_1 hc_X11_is_32 rfl) (u1_2 hc_X11_is_32 rfl) rfl) rfl
theorem dX11_is_35 : decode cX11_is 35 = .ok (.iload_n 1, 1) := o_27 (u1_3 hc_X11_is_32 rfl) rfl
theorem dX11_is_36 : decode cX11_is 36 = .ok (.iaload, 1) := o_46 (u1_4 hc_X11_is_32 rfl) rfl
theorem dX11_is_37 : decode cX11_is 37 = .ok (.iload_n 2, 1) := o_28 (u1_5 hc_X11_is_32 rfl) rfl
theorem dX11_is_38 : decode cX11_is 38 = .ok (.invokevirtual 115, 3) := o_182 (u1_6 hc_X11_is_32 rfl) (u2_d (u1_7 hc_X11_is_32 rfl) (u1_8 hc_X11_is_32 rfl) rfl) rfl
theorem dX11_is_41 : decode cX11_is 41 = .ok (.invokestatic 118, 3) := o_184 (u1_9 hc_X11_is_32 rfl) (u2_d (u1_10 hc_X11_is_32 rfl) (u1_11 hc_X11_is_32 rfl) rfl) rfl
theorem dX11_is_44 : decode cX11_is 44 = .ok (.ireturn, 1) := o_172 (u1_12 hc_X11_is_32 rfl) rfl
theorem hc_X11_bulk_0 : ((bL cX11_bulk).drop 0).take 18 = [42, 180, 0, 10, 27, 182, 0, 109, 154, 0, 5, 2, 172, 42, 180, 0, 37, 182] := by decide +kernel
theorem dX11_bulk_0 : decode cX11_bulk 0 = .ok (.aload_n 0, 1) := o_42 (u1_0 hc_X11_bulk_0 rfl) rfl
theorem dX11_bulk_1 : decode cX11_bulk 1 = .ok (.getfield 10, 3) := o_180 (u1_1 hc_X11_bulk_0 rfl) (u2_d (u1_2 hc_X11_bulk_0 rfl) (u1_3 hc_X11_bulk_0 rfl) rfl) rfl
theorem dX11_bulk_4 : decode cX11_bulk 4 = .ok (.iload_n 1, 1) := o_27 (u1_4 hc_X11_bulk_0 rfl) rfl
theorem dX11_bulk_5 : decode cX11_bulk 5 = .ok (.invokevirtual 109, 3) := o_182 (u1_5 hc_X11_bulk_0 rfl) (u2_d (u1_6 hc_X11_bulk_0 rfl) (u1_7 hc_X11_bulk_0 rfl) rfl) rfl
theorem dX11_bulk_8 : decode cX11_bulk 8 = .ok (.ifCond .ne 5, 3) := o_154 (u1_8 hc_X11_bulk_0 rfl) (s2_d (u2_d (u1_9 hc_X11_bulk_0 rfl) (u1_10 hc_X11_bulk_0 rfl) rfl) rfl) rfl
theorem dX11_bulk_11 : decode cX11_bulk 11 = .ok (.iconst (-1), 1) := o_2 (u1_11 hc_X11_bulk_0 rfl) rfl
theorem dX11_bulk_12 : decode cX11_bulk 12 = .ok (.ireturn, 1) := o_172 (u1_12 hc_X11_bulk_0 rfl) rfl
theorem dX11_bulk_13 : decode cX11_bulk 13 = .ok (.aload_n 0, 1) := o_42 (u1_13 hc_X11_bulk_0 rfl) rfl
theorem dX11_bulk_14 : decode cX11_bulk 14 = .ok (.getfield 37, 3) := o_180 (u1_14 hc_X11_bulk_0 rfl) (u2_d (u1_15 hc_X11_bulk_0 rfl) (u1_16 hc_X11_bulk_0 rfl) rfl) rfl
theorem hc_X11_bulk_16 : ((bL cX11_bulk).drop 16).take 18 = [37, 182, 0, 122, 42, 180, 0, 10, 27, 182, 0, 125, 154, 0, 9, 42, 6, 182] := by decide +kernel
theorem dX11_bulk_17 : decode cX11_bulk 17 = .ok (.invokevirtual 122, 3) := o_182 (u1_1 hc_X11_bulk_16 rfl) (u2_d (u1_2 hc_X11_bulk_16 rfl) (u1_3 hc_X11_bulk_16 rfl) rfl) rfl
theorem dX11_bulk_20 : decode cX11_bulk 20 = .ok (.aload_n 0, 1) := o_42 (u1_4 hc_X11_bulk_16 rfl) rfl
theorem dX11_bulk_21 : decode cX11_bulk 21 = .ok (.getfield 10, 3) := o_180 (u1_5 hc_X11_bulk_16 rfl) (u2_d (u1_6 hc_X11_bulk_16 rfl) (u1_7 hc_X11_bulk_16 rfl) rfl) rfl
theorem dX11_bulk_24 : decode cX11_bulk 24 = .ok (.iload_n 1, 1) := o_27 (u1_8 hc_X11_bulk_16 rfl) rfl
theorem dX11_bulk_25 : decode cX11_bulk 25 = .ok (.invokevirtual 125, 3) := o_182 (u1_9 hc_X11_bulk_16 rfl) (u2_d (u1_10 hc_X11_bulk_16 rfl) (u1_11 hc_X11_bulk_16 rfl) rfl) rfl
theorem dX11_bulk_28 : decode cX11_bulk 28 = .ok (.ifCond .ne 9, 3) := o_154 (u1_12 hc_X11_bulk_16 rfl) (s2_d (u2_d (u1_13 hc_X11_bulk_16 rfl) (u1_14 hc_X11_bulk_16 rfl) rfl) rfl) rfl
theorem dX11_bulk_31 : decode cX11_bulk 31 = .ok (.aload_n 0, 1) := o_42 (u1_15 hc_X11_bulk_16 rfl) rfl
theorem hc_X11_bulk_32 : ((bL cX11_bulk).drop 32).take 18 = [6, 182, 0, 128, 172, 42, 180, 0, 37, 42, 182, 0, 131, 27, 182, 0, 135, 61] := by decide +kernel
theorem dX11_bulk_32 : decode cX11_bulk 32 = .ok (.iconst 3, 1) := o_6 (u1_0 hc_X11_bulk_32 rfl) rfl
theorem dX11_bulk_33 : decode cX11_bulk 33 = .ok (.invokevirtual 128, 3) := o_182 (u1_1 hc_X11_bulk_32 rfl) (u2_d (u1_2 hc_X11_bulk_32 rfl) (u1_3 hc_X11_bulk_32 rfl) rfl) rfl
theorem dX11_bulk_36 : decode cX11_bulk 36 = .ok (.ireturn, 1) := o_172 (u1_4 hc_X11_bulk_32 rfl) rfl
theorem dX11_bulk_37 : decode cX11_bulk 37 = .ok (.aload_n 0, 1) := o_42 (u1_5 hc_X11_bulk_32 rfl) rfl
theorem dX11_bulk_38 : decode cX11_bulk 38 = .ok (.getfield 37, 3) := o_180 (u1_6 hc_X11_bulk_32 rfl) (u2_d (u1_7 hc_X11_bulk_32 rfl) (u1_8 hc_X11_bulk_32 rfl) rfl) rfl
theorem dX11_bulk_41 : decode cX11_bulk 41 = .ok (.aload_n 0, 1) := o_42 (u1_9 hc_X11_bulk_32 rfl) rfl
theorem dX11_bulk_42 : decode cX11_bulk 42 = .ok (.invokevirtual 131, 3) := o_182 (u1_10 hc_X11_bulk_32 rfl) (u2_d (u1_11 hc_X11_bulk_32 rfl) (u1_12 hc_X11_bulk_32 rfl) rfl) rfl
theorem dX11_bulk_45 : decode cX11_bulk 45 = .ok (.iload_n 1, 1) := o_27 (u1_13 hc_X11_bulk_32 rfl) rfl
theorem dX11_bulk_46 : decode cX11_bulk 46 = .ok (.invokevirtual 135, 3) := o_182 (u1_14 hc_X11_bulk_32 rfl) (u2_d (u1_15 hc_X11_bulk_32 rfl) (u1_16 hc_X11_bulk_32 rfl) rfl) rfl
theorem hc_X11_bulk_48 : ((bL cX11_bulk).drop 48).take 18 = [135, 61, 28, 156, 0, 9, 42, 7, 182, 0, 128, 172, 42, 28, 133, 181, 0, 76] := by decide +kernel
theorem dX11_bulk_49 : decode cX11_bulk 49 = .ok (.istore_n 2, 1) := o_61 (u1_1 hc_X11_bulk_48 rfl) rfl
theorem dX11_bulk_50 : decode cX11_bulk 50 = .ok (.iload_n 2, 1) := o_28 (u1_2 hc_X11_bulk_48 rfl) rfl
theorem dX11_bulk_51 : decode cX11_bulk 51 = .ok (.ifCond .ge 9, 3) := o_156 (u1_3 hc_X11_bulk_48 rfl) (s2_d (u2_d (u1_4 hc_X11_bulk_48 rfl) (u1_5 hc_X11_bulk_48 rfl) rfl) rfl) rfl
theorem dX11_bulk_54 : decode cX11_bulk 54 = .ok (.aload_n 0, 1) := o_42 (u1_6 hc_X11_bulk_48 rfl) rfl
theorem dX11_bulk_55 : decode cX11_bulk 55 = .ok (.iconst 4, 1) := o_7 (u1_7 hc_X11_bulk_48 rfl) rfl
theorem dX11_bulk_56 : decode cX11_bulk 56 = .ok (.invokevirtual 128, 3) := o_182 (u1_8 hc_X11_bulk_48 rfl) (u2_d (u1_9 hc_X11_bulk_48 rfl) (u1_10 hc_X11_bulk_48 rfl) rfl) rfl
theorem dX11_bulk_59 : decode cX11_bulk 59 = .ok (.ireturn, 1) := o_172 (u1_11 hc_X11_bulk_48 rfl) rfl
theorem dX11_bulk_60 : decode cX11_bulk 60 = .ok (.aload_n 0, 1) := o_42 (u1_12 hc_X11_bulk_48 rfl) rfl
theorem dX11_bulk_61 : decode cX11_bulk 61 = .ok (.iload_n 2, 1) := o_28 (u1_13 hc_X11_bulk_48 rfl) rfl
theorem dX11_bulk_62 : decode cX11_bulk 62 = .ok (.i2l, 1) := o_133 (u1_14 hc_X11_bulk_48 rfl) rfl
theorem dX11_bulk_63 : decode cX11_bulk 63 = .ok (.putfield 76, 3) := o_181 (u1_15 hc_X11_bulk_48 rfl) (u2_d (u1_16 hc_X11_bulk_48 rfl) (u1_17 hc_X11_bulk_48 rfl) rfl) rfl
theorem hc_X11_bulk_64 : ((bL cX11_bulk).drop 64).take 18 = [0, 76, 4, 172] := by decide +kernel
theorem dX11_bulk_66 : decode cX11_bulk 66 = .ok (.iconst 1, 1) := o_4 (u1_2 hc_X11_bulk_64 rfl) rfl
theorem dX11_bulk_67 : decode cX11_bulk 67 = .ok (.ireturn, 1) := o_172 (u1_3 hc_X11_bulk_64 rfl) rfl
theorem hc_X11_asked_0 : ((bL cX11_asked).drop 0).take 18 = [42, 180, 0, 76, 173] := by decide +kernel
theorem dX11_asked_0 : decode cX11_asked 0 = .ok (.aload_n 0, 1) := o_42 (u1_0 hc_X11_asked_0 rfl) rfl
theorem dX11_asked_1 : decode cX11_asked 1 = .ok (.getfield 76, 3) := o_180 (u1_1 hc_X11_asked_0 rfl) (u2_d (u1_2 hc_X11_asked_0 rfl) (u1_3 hc_X11_asked_0 rfl) rfl) rfl
theorem dX11_asked_4 : decode cX11_asked 4 = .ok (.lreturn, 1) := o_173 (u1_4 hc_X11_asked_0 rfl) rfl
theorem hc_X11_trace_0 : ((bL cX11_trace).drop 0).take 18 = [27, 42, 180, 0, 37, 180, 0, 139, 184, 0, 91, 153, 0, 15, 42, 180, 0, 37] := by decide +kernel
theorem dX11_trace_0 : decode cX11_trace 0 = .ok (.iload_n 1, 1) := o_27 (u1_0 hc_X11_trace_0 rfl) rfl
theorem dX11_trace_1 : decode cX11_trace 1 = .ok (.aload_n 0, 1) := o_42 (u1_1 hc_X11_trace_0 rfl) rfl
theorem dX11_trace_2 : decode cX11_trace 2 = .ok (.getfield 37, 3) := o_180 (u1_2 hc_X11_trace_0 rfl) (u2_d (u1_3 hc_X11_trace_0 rfl) (u1_4 hc_X11_trace_0 rfl) rfl) rfl
theorem dX11_trace_5 : decode cX11_trace 5 = .ok (.getfield 139, 3) := o_180 (u1_5 hc_X11_trace_0 rfl) (u2_d (u1_6 hc_X11_trace_0 rfl) (u1_7 hc_X11_trace_0 rfl) rfl) rfl
theorem dX11_trace_8 : decode cX11_trace 8 = .ok (.invokestatic 91, 3) := o_184 (u1_8 hc_X11_trace_0 rfl) (u2_d (u1_9 hc_X11_trace_0 rfl) (u1_10 hc_X11_trace_0 rfl) rfl) rfl
theorem dX11_trace_11 : decode cX11_trace 11 = .ok (.ifCond .eq 15, 3) := o_153 (u1_11 hc_X11_trace_0 rfl) (s2_d (u2_d (u1_12 hc_X11_trace_0 rfl) (u1_13 hc_X11_trace_0 rfl) rfl) rfl) rfl
theorem dX11_trace_14 : decode cX11_trace 14 = .ok (.aload_n 0, 1) := o_42 (u1_14 hc_X11_trace_0 rfl) rfl
theorem dX11_trace_15 : decode cX11_trace 15 = .ok (.getfield 37, 3) := o_180 (u1_15 hc_X11_trace_0 rfl) (u2_d (u1_16 hc_X11_trace_0 rfl) (u1_17 hc_X11_trace_0 rfl) rfl) rfl
theorem hc_X11_trace_16 : ((bL cX11_trace).drop 16).take 18 = [0, 37, 180, 0, 142, 27, 46, 167, 0, 5, 16, 247, 172] := by decide +kernel
theorem dX11_trace_18 : decode cX11_trace 18 = .ok (.getfield 142, 3) := o_180 (u1_2 hc_X11_trace_16 rfl) (u2_d (u1_3 hc_X11_trace_16 rfl) (u1_4 hc_X11_trace_16 rfl) rfl) rfl
theorem dX11_trace_21 : decode cX11_trace 21 = .ok (.iload_n 1, 1) := o_27 (u1_5 hc_X11_trace_16 rfl) rfl
theorem dX11_trace_22 : decode cX11_trace 22 = .ok (.iaload, 1) := o_46 (u1_6 hc_X11_trace_16 rfl) rfl
theorem dX11_trace_23 : decode cX11_trace 23 = .ok (.goto 5, 3) := o_167 (u1_7 hc_X11_trace_16 rfl) (s2_d (u2_d (u1_8 hc_X11_trace_16 rfl) (u1_9 hc_X11_trace_16 rfl) rfl) rfl) rfl
theorem dX11_trace_26 : decode cX11_trace 26 = .ok (.bipush (-9), 2) := o_16 (u1_10 hc_X11_trace_16 rfl) (s1_d (u1_11 hc_X11_trace_16 rfl) rfl) rfl
theorem dX11_trace_28 : decode cX11_trace 28 = .ok (.ireturn, 1) := o_172 (u1_12 hc_X11_trace_16 rfl) rfl
theorem hc_X11_share_0 : ((bL cX11_share).drop 0).take 18 = [42, 180, 0, 10, 27, 182, 0, 109, 153, 0, 14, 42, 180, 0, 10, 28, 182, 0] := by decide +kernel
theorem dX11_share_0 : decode cX11_share 0 = .ok (.aload_n 0, 1) := o_42 (u1_0 hc_X11_share_0 rfl) rfl
theorem dX11_share_1 : decode cX11_share 1 = .ok (.getfield 10, 3) := o_180 (u1_1 hc_X11_share_0 rfl) (u2_d (u1_2 hc_X11_share_0 rfl) (u1_3 hc_X11_share_0 rfl) rfl) rfl
theorem dX11_share_4 : decode cX11_share 4 = .ok (.iload_n 1, 1) := o_27 (u1_4 hc_X11_share_0 rfl) rfl
theorem dX11_share_5 : decode cX11_share 5 = .ok (.invokevirtual 109, 3) := o_182 (u1_5 hc_X11_share_0 rfl) (u2_d (u1_6 hc_X11_share_0 rfl) (u1_7 hc_X11_share_0 rfl) rfl) rfl
theorem dX11_share_8 : decode cX11_share 8 = .ok (.ifCond .eq 14, 3) := o_153 (u1_8 hc_X11_share_0 rfl) (s2_d (u2_d (u1_9 hc_X11_share_0 rfl) (u1_10 hc_X11_share_0 rfl) rfl) rfl) rfl
theorem dX11_share_11 : decode cX11_share 11 = .ok (.aload_n 0, 1) := o_42 (u1_11 hc_X11_share_0 rfl) rfl
theorem dX11_share_12 : decode cX11_share 12 = .ok (.getfield 10, 3) := o_180 (u1_12 hc_X11_share_0 rfl) (u2_d (u1_13 hc_X11_share_0 rfl) (u1_14 hc_X11_share_0 rfl) rfl) rfl
theorem dX11_share_15 : decode cX11_share 15 = .ok (.iload_n 2, 1) := o_28 (u1_15 hc_X11_share_0 rfl) rfl
theorem hc_X11_share_16 : ((bL cX11_share).drop 16).take 18 = [182, 0, 109, 154, 0, 5, 2, 172, 42, 180, 0, 10, 27, 182, 0, 125, 154, 0] := by decide +kernel
theorem dX11_share_16 : decode cX11_share 16 = .ok (.invokevirtual 109, 3) := o_182 (u1_0 hc_X11_share_16 rfl) (u2_d (u1_1 hc_X11_share_16 rfl) (u1_2 hc_X11_share_16 rfl) rfl) rfl
theorem dX11_share_19 : decode cX11_share 19 = .ok (.ifCond .ne 5, 3) := o_154 (u1_3 hc_X11_share_16 rfl) (s2_d (u2_d (u1_4 hc_X11_share_16 rfl) (u1_5 hc_X11_share_16 rfl) rfl) rfl) rfl
theorem dX11_share_22 : decode cX11_share 22 = .ok (.iconst (-1), 1) := o_2 (u1_6 hc_X11_share_16 rfl) rfl
theorem dX11_share_23 : decode cX11_share 23 = .ok (.ireturn, 1) := o_172 (u1_7 hc_X11_share_16 rfl) rfl
theorem dX11_share_24 : decode cX11_share 24 = .ok (.aload_n 0, 1) := o_42 (u1_8 hc_X11_share_16 rfl) rfl
theorem dX11_share_25 : decode cX11_share 25 = .ok (.getfield 10, 3) := o_180 (u1_9 hc_X11_share_16 rfl) (u2_d (u1_10 hc_X11_share_16 rfl) (u1_11 hc_X11_share_16 rfl) rfl) rfl
theorem dX11_share_28 : decode cX11_share 28 = .ok (.iload_n 1, 1) := o_27 (u1_12 hc_X11_share_16 rfl) rfl
theorem dX11_share_29 : decode cX11_share 29 = .ok (.invokevirtual 125, 3) := o_182 (u1_13 hc_X11_share_16 rfl) (u2_d (u1_14 hc_X11_share_16 rfl) (u1_15 hc_X11_share_16 rfl) rfl) rfl
theorem hc_X11_share_32 : ((bL cX11_share).drop 32).take 18 = [154, 0, 9, 42, 6, 182, 0, 128, 172, 42, 180, 0, 37, 42, 182, 0, 131, 27] := by decide +kernel
theorem dX11_share_32 : decode cX11_share 32 = .ok (.ifCond .ne 9, 3) := o_154 (u1_0 hc_X11_share_32 rfl) (s2_d (u2_d (u1_1 hc_X11_share_32 rfl) (u1_2 hc_X11_share_32 rfl) rfl) rfl) rfl
theorem dX11_share_35 : decode cX11_share 35 = .ok (.aload_n 0, 1) := o_42 (u1_3 hc_X11_share_32 rfl) rfl
theorem dX11_share_36 : decode cX11_share 36 = .ok (.iconst 3, 1) := o_6 (u1_4 hc_X11_share_32 rfl) rfl
theorem dX11_share_37 : decode cX11_share 37 = .ok (.invokevirtual 128, 3) := o_182 (u1_5 hc_X11_share_32 rfl) (u2_d (u1_6 hc_X11_share_32 rfl) (u1_7 hc_X11_share_32 rfl) rfl) rfl
theorem dX11_share_40 : decode cX11_share 40 = .ok (.ireturn, 1) := o_172 (u1_8 hc_X11_share_32 rfl) rfl
theorem dX11_share_41 : decode cX11_share 41 = .ok (.aload_n 0, 1) := o_42 (u1_9 hc_X11_share_32 rfl) rfl
theorem dX11_share_42 : decode cX11_share 42 = .ok (.getfield 37, 3) := o_180 (u1_10 hc_X11_share_32 rfl) (u2_d (u1_11 hc_X11_share_32 rfl) (u1_12 hc_X11_share_32 rfl) rfl) rfl
theorem dX11_share_45 : decode cX11_share 45 = .ok (.aload_n 0, 1) := o_42 (u1_13 hc_X11_share_32 rfl) rfl
theorem dX11_share_46 : decode cX11_share 46 = .ok (.invokevirtual 131, 3) := o_182 (u1_14 hc_X11_share_32 rfl) (u2_d (u1_15 hc_X11_share_32 rfl) (u1_16 hc_X11_share_32 rfl) rfl) rfl
theorem hc_X11_share_48 : ((bL cX11_share).drop 48).take 18 = [131, 27, 182, 0, 145, 62, 42, 180, 0, 37, 42, 182, 0, 131, 28, 182, 0, 148] := by decide +kernel
theorem dX11_share_49 : decode cX11_share 49 = .ok (.iload_n 1, 1) := o_27 (u1_1 hc_X11_share_48 rfl) rfl
theorem dX11_share_50 : decode cX11_share 50 = .ok (.invokevirtual 145, 3) := o_182 (u1_2 hc_X11_share_48 rfl) (u2_d (u1_3 hc_X11_share_48 rfl) (u1_4 hc_X11_share_48 rfl) rfl) rfl
theorem dX11_share_53 : decode cX11_share 53 = .ok (.istore_n 3, 1) := o_62 (u1_5 hc_X11_share_48 rfl) rfl
theorem dX11_share_54 : decode cX11_share 54 = .ok (.aload_n 0, 1) := o_42 (u1_6 hc_X11_share_48 rfl) rfl
theorem dX11_share_55 : decode cX11_share 55 = .ok (.getfield 37, 3) := o_180 (u1_7 hc_X11_share_48 rfl) (u2_d (u1_8 hc_X11_share_48 rfl) (u1_9 hc_X11_share_48 rfl) rfl) rfl
theorem dX11_share_58 : decode cX11_share 58 = .ok (.aload_n 0, 1) := o_42 (u1_10 hc_X11_share_48 rfl) rfl
theorem dX11_share_59 : decode cX11_share 59 = .ok (.invokevirtual 131, 3) := o_182 (u1_11 hc_X11_share_48 rfl) (u2_d (u1_12 hc_X11_share_48 rfl) (u1_13 hc_X11_share_48 rfl) rfl) rfl
theorem dX11_share_62 : decode cX11_share 62 = .ok (.iload_n 2, 1) := o_28 (u1_14 hc_X11_share_48 rfl) rfl
theorem dX11_share_63 : decode cX11_share 63 = .ok (.invokevirtual 148, 3) := o_182 (u1_15 hc_X11_share_48 rfl) (u2_d (u1_16 hc_X11_share_48 rfl) (u1_17 hc_X11_share_48 rfl) rfl) rfl
theorem hc_X11_share_64 : ((bL cX11_share).drop 64).take 18 = [0, 148, 54, 4, 29, 155, 0, 8, 21, 4, 157, 0, 9, 42, 7, 182, 0, 128] := by decide +kernel
theorem dX11_share_66 : decode cX11_share 66 = .ok (.istore 4, 2) := o_54 (u1_2 hc_X11_share_64 rfl) (u1_3 hc_X11_share_64 rfl) rfl
theorem dX11_share_68 : decode cX11_share 68 = .ok (.iload_n 3, 1) := o_29 (u1_4 hc_X11_share_64 rfl) rfl
theorem dX11_share_69 : decode cX11_share 69 = .ok (.ifCond .lt 8, 3) := o_155 (u1_5 hc_X11_share_64 rfl) (s2_d (u2_d (u1_6 hc_X11_share_64 rfl) (u1_7 hc_X11_share_64 rfl) rfl) rfl) rfl
theorem dX11_share_72 : decode cX11_share 72 = .ok (.iload 4, 2) := o_21 (u1_8 hc_X11_share_64 rfl) (u1_9 hc_X11_share_64 rfl) rfl
theorem dX11_share_74 : decode cX11_share 74 = .ok (.ifCond .gt 9, 3) := o_157 (u1_10 hc_X11_share_64 rfl) (s2_d (u2_d (u1_11 hc_X11_share_64 rfl) (u1_12 hc_X11_share_64 rfl) rfl) rfl) rfl
theorem dX11_share_77 : decode cX11_share 77 = .ok (.aload_n 0, 1) := o_42 (u1_13 hc_X11_share_64 rfl) rfl
theorem dX11_share_78 : decode cX11_share 78 = .ok (.iconst 4, 1) := o_7 (u1_14 hc_X11_share_64 rfl) rfl
theorem dX11_share_79 : decode cX11_share 79 = .ok (.invokevirtual 128, 3) := o_182 (u1_15 hc_X11_share_64 rfl) (u2_d (u1_16 hc_X11_share_64 rfl) (u1_17 hc_X11_share_64 rfl) rfl) rfl
theorem hc_X11_share_80 : ((bL cX11_share).drop 80).take 18 = [0, 128, 172, 42, 20, 0, 151, 29, 133, 105, 21, 4, 133, 109, 181, 0, 76, 4] := by decide +kernel
theorem dX11_share_82 : decode cX11_share 82 = .ok (.ireturn, 1) := o_172 (u1_2 hc_X11_share_80 rfl) rfl
theorem dX11_share_83 : decode cX11_share 83 = .ok (.aload_n 0, 1) := o_42 (u1_3 hc_X11_share_80 rfl) rfl
theorem dX11_share_84 : decode cX11_share 84 = .ok (.ldc2_w 151, 3) := o_20 (u1_4 hc_X11_share_80 rfl) (u2_d (u1_5 hc_X11_share_80 rfl) (u1_6 hc_X11_share_80 rfl) rfl) rfl
theorem dX11_share_87 : decode cX11_share 87 = .ok (.iload_n 3, 1) := o_29 (u1_7 hc_X11_share_80 rfl) rfl
theorem dX11_share_88 : decode cX11_share 88 = .ok (.i2l, 1) := o_133 (u1_8 hc_X11_share_80 rfl) rfl
theorem dX11_share_89 : decode cX11_share 89 = .ok (.lmul, 1) := o_105 (u1_9 hc_X11_share_80 rfl) rfl
theorem dX11_share_90 : decode cX11_share 90 = .ok (.iload 4, 2) := o_21 (u1_10 hc_X11_share_80 rfl) (u1_11 hc_X11_share_80 rfl) rfl
theorem dX11_share_92 : decode cX11_share 92 = .ok (.i2l, 1) := o_133 (u1_12 hc_X11_share_80 rfl) rfl
theorem dX11_share_93 : decode cX11_share 93 = .ok (.ldiv, 1) := o_109 (u1_13 hc_X11_share_80 rfl) rfl
theorem dX11_share_94 : decode cX11_share 94 = .ok (.putfield 76, 3) := o_181 (u1_14 hc_X11_share_80 rfl) (u2_d (u1_15 hc_X11_share_80 rfl) (u1_16 hc_X11_share_80 rfl) rfl) rfl
theorem hc_X11_share_96 : ((bL cX11_share).drop 96).take 18 = [76, 4, 172] := by decide +kernel
theorem dX11_share_97 : decode cX11_share 97 = .ok (.iconst 1, 1) := o_4 (u1_1 hc_X11_share_96 rfl) rfl
theorem dX11_share_98 : decode cX11_share 98 = .ok (.ireturn, 1) := o_172 (u1_2 hc_X11_share_96 rfl) rfl
theorem hc_X11_say_0 : ((bL cX11_say).drop 0).take 18 = [42, 180, 0, 21, 182, 0, 153, 42, 180, 0, 21, 27, 28, 29, 21, 4, 182, 0] := by decide +kernel
theorem dX11_say_0 : decode cX11_say 0 = .ok (.aload_n 0, 1) := o_42 (u1_0 hc_X11_say_0 rfl) rfl
theorem dX11_say_1 : decode cX11_say 1 = .ok (.getfield 21, 3) := o_180 (u1_1 hc_X11_say_0 rfl) (u2_d (u1_2 hc_X11_say_0 rfl) (u1_3 hc_X11_say_0 rfl) rfl) rfl
theorem dX11_say_4 : decode cX11_say 4 = .ok (.invokevirtual 153, 3) := o_182 (u1_4 hc_X11_say_0 rfl) (u2_d (u1_5 hc_X11_say_0 rfl) (u1_6 hc_X11_say_0 rfl) rfl) rfl
theorem dX11_say_7 : decode cX11_say 7 = .ok (.aload_n 0, 1) := o_42 (u1_7 hc_X11_say_0 rfl) rfl
theorem dX11_say_8 : decode cX11_say 8 = .ok (.getfield 21, 3) := o_180 (u1_8 hc_X11_say_0 rfl) (u2_d (u1_9 hc_X11_say_0 rfl) (u1_10 hc_X11_say_0 rfl) rfl) rfl
theorem dX11_say_11 : decode cX11_say 11 = .ok (.iload_n 1, 1) := o_27 (u1_11 hc_X11_say_0 rfl) rfl
theorem dX11_say_12 : decode cX11_say 12 = .ok (.iload_n 2, 1) := o_28 (u1_12 hc_X11_say_0 rfl) rfl
theorem dX11_say_13 : decode cX11_say 13 = .ok (.iload_n 3, 1) := o_29 (u1_13 hc_X11_say_0 rfl) rfl
theorem dX11_say_14 : decode cX11_say 14 = .ok (.iload 4, 2) := o_21 (u1_14 hc_X11_say_0 rfl) (u1_15 hc_X11_say_0 rfl) rfl
theorem hc_X11_say_16 : ((bL cX11_say).drop 16).take 18 = [182, 0, 156, 154, 0, 5, 2, 172, 27, 8, 159, 0, 9, 27, 16, 6, 160, 0] := by decide +kernel
theorem dX11_say_16 : decode cX11_say 16 = .ok (.invokevirtual 156, 3) := o_182 (u1_0 hc_X11_say_16 rfl) (u2_d (u1_1 hc_X11_say_16 rfl) (u1_2 hc_X11_say_16 rfl) rfl) rfl
theorem dX11_say_19 : decode cX11_say 19 = .ok (.ifCond .ne 5, 3) := o_154 (u1_3 hc_X11_say_16 rfl) (s2_d (u2_d (u1_4 hc_X11_say_16 rfl) (u1_5 hc_X11_say_16 rfl) rfl) rfl) rfl
theorem dX11_say_22 : decode cX11_say 22 = .ok (.iconst (-1), 1) := o_2 (u1_6 hc_X11_say_16 rfl) rfl
theorem dX11_say_23 : decode cX11_say 23 = .ok (.ireturn, 1) := o_172 (u1_7 hc_X11_say_16 rfl) rfl
theorem dX11_say_24 : decode cX11_say 24 = .ok (.iload_n 1, 1) := o_27 (u1_8 hc_X11_say_16 rfl) rfl
theorem dX11_say_25 : decode cX11_say 25 = .ok (.iconst 5, 1) := o_8 (u1_9 hc_X11_say_16 rfl) rfl
theorem dX11_say_26 : decode cX11_say 26 = .ok (.if_icmp .eq 9, 3) := o_159 (u1_10 hc_X11_say_16 rfl) (s2_d (u2_d (u1_11 hc_X11_say_16 rfl) (u1_12 hc_X11_say_16 rfl) rfl) rfl) rfl
theorem dX11_say_29 : decode cX11_say 29 = .ok (.iload_n 1, 1) := o_27 (u1_13 hc_X11_say_16 rfl) rfl
theorem dX11_say_30 : decode cX11_say 30 = .ok (.bipush 6, 2) := o_16 (u1_14 hc_X11_say_16 rfl) (s1_d (u1_15 hc_X11_say_16 rfl) rfl) rfl
theorem hc_X11_say_32 : ((bL cX11_say).drop 32).take 18 = [160, 0, 8, 21, 4, 167, 0, 4, 3, 54, 5, 42, 180, 0, 21, 27, 28, 29] := by decide +kernel
theorem dX11_say_32 : decode cX11_say 32 = .ok (.if_icmp .ne 8, 3) := o_160 (u1_0 hc_X11_say_32 rfl) (s2_d (u2_d (u1_1 hc_X11_say_32 rfl) (u1_2 hc_X11_say_32 rfl) rfl) rfl) rfl
theorem dX11_say_35 : decode cX11_say 35 = .ok (.iload 4, 2) := o_21 (u1_3 hc_X11_say_32 rfl) (u1_4 hc_X11_say_32 rfl) rfl
theorem dX11_say_37 : decode cX11_say 37 = .ok (.goto 4, 3) := o_167 (u1_5 hc_X11_say_32 rfl) (s2_d (u2_d (u1_6 hc_X11_say_32 rfl) (u1_7 hc_X11_say_32 rfl) rfl) rfl) rfl
theorem dX11_say_40 : decode cX11_say 40 = .ok (.iconst 0, 1) := o_3 (u1_8 hc_X11_say_32 rfl) rfl
theorem dX11_say_41 : decode cX11_say 41 = .ok (.istore 5, 2) := o_54 (u1_9 hc_X11_say_32 rfl) (u1_10 hc_X11_say_32 rfl) rfl
theorem dX11_say_43 : decode cX11_say 43 = .ok (.aload_n 0, 1) := o_42 (u1_11 hc_X11_say_32 rfl) rfl
theorem dX11_say_44 : decode cX11_say 44 = .ok (.getfield 21, 3) := o_180 (u1_12 hc_X11_say_32 rfl) (u2_d (u1_13 hc_X11_say_32 rfl) (u1_14 hc_X11_say_32 rfl) rfl) rfl
theorem dX11_say_47 : decode cX11_say 47 = .ok (.iload_n 1, 1) := o_27 (u1_15 hc_X11_say_32 rfl) rfl
theorem hc_X11_say_48 : ((bL cX11_say).drop 48).take 18 = [28, 29, 182, 0, 160, 154, 0, 9, 42, 6, 182, 0, 128, 172, 42, 180, 0, 21] := by decide +kernel
theorem dX11_say_48 : decode cX11_say 48 = .ok (.iload_n 2, 1) := o_28 (u1_0 hc_X11_say_48 rfl) rfl
theorem dX11_say_49 : decode cX11_say 49 = .ok (.iload_n 3, 1) := o_29 (u1_1 hc_X11_say_48 rfl) rfl
theorem dX11_say_50 : decode cX11_say 50 = .ok (.invokevirtual 160, 3) := o_182 (u1_2 hc_X11_say_48 rfl) (u2_d (u1_3 hc_X11_say_48 rfl) (u1_4 hc_X11_say_48 rfl) rfl) rfl
theorem dX11_say_53 : decode cX11_say 53 = .ok (.ifCond .ne 9, 3) := o_154 (u1_5 hc_X11_say_48 rfl) (s2_d (u2_d (u1_6 hc_X11_say_48 rfl) (u1_7 hc_X11_say_48 rfl) rfl) rfl) rfl
theorem dX11_say_56 : decode cX11_say 56 = .ok (.aload_n 0, 1) := o_42 (u1_8 hc_X11_say_48 rfl) rfl
theorem dX11_say_57 : decode cX11_say 57 = .ok (.iconst 3, 1) := o_6 (u1_9 hc_X11_say_48 rfl) rfl
theorem dX11_say_58 : decode cX11_say 58 = .ok (.invokevirtual 128, 3) := o_182 (u1_10 hc_X11_say_48 rfl) (u2_d (u1_11 hc_X11_say_48 rfl) (u1_12 hc_X11_say_48 rfl) rfl) rfl
theorem dX11_say_61 : decode cX11_say 61 = .ok (.ireturn, 1) := o_172 (u1_13 hc_X11_say_48 rfl) rfl
theorem dX11_say_62 : decode cX11_say 62 = .ok (.aload_n 0, 1) := o_42 (u1_14 hc_X11_say_48 rfl) rfl
theorem dX11_say_63 : decode cX11_say 63 = .ok (.getfield 21, 3) := o_180 (u1_15 hc_X11_say_48 rfl) (u2_d (u1_16 hc_X11_say_48 rfl) (u1_17 hc_X11_say_48 rfl) rfl) rfl
theorem hc_X11_say_64 : ((bL cX11_say).drop 64).take 18 = [0, 21, 27, 28, 29, 21, 5, 182, 0, 164, 54, 6, 21, 6, 16, 247, 159, 0] := by decide +kernel
theorem dX11_say_66 : decode cX11_say 66 = .ok (.iload_n 1, 1) := o_27 (u1_2 hc_X11_say_64 rfl) rfl
theorem dX11_say_67 : decode cX11_say 67 = .ok (.iload_n 2, 1) := o_28 (u1_3 hc_X11_say_64 rfl) rfl
theorem dX11_say_68 : decode cX11_say 68 = .ok (.iload_n 3, 1) := o_29 (u1_4 hc_X11_say_64 rfl) rfl
theorem dX11_say_69 : decode cX11_say 69 = .ok (.iload 5, 2) := o_21 (u1_5 hc_X11_say_64 rfl) (u1_6 hc_X11_say_64 rfl) rfl
theorem dX11_say_71 : decode cX11_say 71 = .ok (.invokevirtual 164, 3) := o_182 (u1_7 hc_X11_say_64 rfl) (u2_d (u1_8 hc_X11_say_64 rfl) (u1_9 hc_X11_say_64 rfl) rfl) rfl
theorem dX11_say_74 : decode cX11_say 74 = .ok (.istore 6, 2) := o_54 (u1_10 hc_X11_say_64 rfl) (u1_11 hc_X11_say_64 rfl) rfl
theorem dX11_say_76 : decode cX11_say 76 = .ok (.iload 6, 2) := o_21 (u1_12 hc_X11_say_64 rfl) (u1_13 hc_X11_say_64 rfl) rfl
theorem dX11_say_78 : decode cX11_say 78 = .ok (.bipush (-9), 2) := o_16 (u1_14 hc_X11_say_64 rfl) (s1_d (u1_15 hc_X11_say_64 rfl) rfl) rfl
theorem hc_X11_say_80 : ((bL cX11_say).drop 80).take 18 = [159, 0, 6, 21, 6, 172, 42, 180, 0, 21, 180, 0, 168, 17, 0, 200, 161, 0] := by decide +kernel
theorem dX11_say_80 : decode cX11_say 80 = .ok (.if_icmp .eq 6, 3) := o_159 (u1_0 hc_X11_say_80 rfl) (s2_d (u2_d (u1_1 hc_X11_say_80 rfl) (u1_2 hc_X11_say_80 rfl) rfl) rfl) rfl
theorem dX11_say_83 : decode cX11_say 83 = .ok (.iload 6, 2) := o_21 (u1_3 hc_X11_say_80 rfl) (u1_4 hc_X11_say_80 rfl) rfl
theorem dX11_say_85 : decode cX11_say 85 = .ok (.ireturn, 1) := o_172 (u1_5 hc_X11_say_80 rfl) rfl
theorem dX11_say_86 : decode cX11_say 86 = .ok (.aload_n 0, 1) := o_42 (u1_6 hc_X11_say_80 rfl) rfl
theorem dX11_say_87 : decode cX11_say 87 = .ok (.getfield 21, 3) := o_180 (u1_7 hc_X11_say_80 rfl) (u2_d (u1_8 hc_X11_say_80 rfl) (u1_9 hc_X11_say_80 rfl) rfl) rfl
theorem dX11_say_90 : decode cX11_say 90 = .ok (.getfield 168, 3) := o_180 (u1_10 hc_X11_say_80 rfl) (u2_d (u1_11 hc_X11_say_80 rfl) (u1_12 hc_X11_say_80 rfl) rfl) rfl
theorem dX11_say_93 : decode cX11_say 93 = .ok (.sipush 200, 3) := o_17 (u1_13 hc_X11_say_80 rfl) (s2_d (u2_d (u1_14 hc_X11_say_80 rfl) (u1_15 hc_X11_say_80 rfl) rfl) rfl) rfl
theorem hc_X11_say_96 : ((bL cX11_say).drop 96).take 18 = [161, 0, 6, 16, 254, 172, 42, 180, 0, 21, 27, 28, 29, 21, 5, 182, 0, 171] := by decide +kernel
theorem dX11_say_96 : decode cX11_say 96 = .ok (.if_icmp .lt 6, 3) := o_161 (u1_0 hc_X11_say_96 rfl) (s2_d (u2_d (u1_1 hc_X11_say_96 rfl) (u1_2 hc_X11_say_96 rfl) rfl) rfl) rfl
theorem dX11_say_99 : decode cX11_say 99 = .ok (.bipush (-2), 2) := o_16 (u1_3 hc_X11_say_96 rfl) (s1_d (u1_4 hc_X11_say_96 rfl) rfl) rfl
theorem dX11_say_101 : decode cX11_say 101 = .ok (.ireturn, 1) := o_172 (u1_5 hc_X11_say_96 rfl) rfl
theorem dX11_say_102 : decode cX11_say 102 = .ok (.aload_n 0, 1) := o_42 (u1_6 hc_X11_say_96 rfl) rfl
theorem dX11_say_103 : decode cX11_say 103 = .ok (.getfield 21, 3) := o_180 (u1_7 hc_X11_say_96 rfl) (u2_d (u1_8 hc_X11_say_96 rfl) (u1_9 hc_X11_say_96 rfl) rfl) rfl
theorem dX11_say_106 : decode cX11_say 106 = .ok (.iload_n 1, 1) := o_27 (u1_10 hc_X11_say_96 rfl) rfl
theorem dX11_say_107 : decode cX11_say 107 = .ok (.iload_n 2, 1) := o_28 (u1_11 hc_X11_say_96 rfl) rfl
theorem dX11_say_108 : decode cX11_say 108 = .ok (.iload_n 3, 1) := o_29 (u1_12 hc_X11_say_96 rfl) rfl
theorem dX11_say_109 : decode cX11_say 109 = .ok (.iload 5, 2) := o_21 (u1_13 hc_X11_say_96 rfl) (u1_14 hc_X11_say_96 rfl) rfl
theorem dX11_say_111 : decode cX11_say 111 = .ok (.invokevirtual 171, 3) := o_182 (u1_15 hc_X11_say_96 rfl) (u2_d (u1_16 hc_X11_say_96 rfl) (u1_17 hc_X11_say_96 rfl) rfl) rfl
theorem hc_X11_say_112 : ((bL cX11_say).drop 112).take 18 = [0, 171, 153, 0, 6, 16, 252, 172, 42, 180, 0, 46, 182, 0, 95, 42, 180, 0] := by decide +kernel
theorem dX11_say_114 : decode cX11_say 114 = .ok (.ifCond .eq 6, 3) := o_153 (u1_2 hc_X11_say_112 rfl) (s2_d (u2_d (u1_3 hc_X11_say_112 rfl) (u1_4 hc_X11_say_112 rfl) rfl) rfl) rfl
theorem dX11_say_117 : decode cX11_say 117 = .ok (.bipush (-4), 2) := o_16 (u1_5 hc_X11_say_112 rfl) (s1_d (u1_6 hc_X11_say_112 rfl) rfl) rfl
theorem dX11_say_119 : decode cX11_say 119 = .ok (.ireturn, 1) := o_172 (u1_7 hc_X11_say_112 rfl) rfl
theorem dX11_say_120 : decode cX11_say 120 = .ok (.aload_n 0, 1) := o_42 (u1_8 hc_X11_say_112 rfl) rfl
theorem dX11_say_121 : decode cX11_say 121 = .ok (.getfield 46, 3) := o_180 (u1_9 hc_X11_say_112 rfl) (u2_d (u1_10 hc_X11_say_112 rfl) (u1_11 hc_X11_say_112 rfl) rfl) rfl
theorem dX11_say_124 : decode cX11_say 124 = .ok (.invokevirtual 95, 3) := o_182 (u1_12 hc_X11_say_112 rfl) (u2_d (u1_13 hc_X11_say_112 rfl) (u1_14 hc_X11_say_112 rfl) rfl) rfl
theorem dX11_say_127 : decode cX11_say 127 = .ok (.aload_n 0, 1) := o_42 (u1_15 hc_X11_say_112 rfl) rfl
theorem hc_X11_say_128 : ((bL cX11_say).drop 128).take 18 = [180, 0, 21, 27, 28, 29, 21, 5, 182, 0, 174, 54, 7, 42, 180, 0, 30, 27] := by decide +kernel
theorem dX11_say_128 : decode cX11_say 128 = .ok (.getfield 21, 3) := o_180 (u1_0 hc_X11_say_128 rfl) (u2_d (u1_1 hc_X11_say_128 rfl) (u1_2 hc_X11_say_128 rfl) rfl) rfl
theorem dX11_say_131 : decode cX11_say 131 = .ok (.iload_n 1, 1) := o_27 (u1_3 hc_X11_say_128 rfl) rfl
theorem dX11_say_132 : decode cX11_say 132 = .ok (.iload_n 2, 1) := o_28 (u1_4 hc_X11_say_128 rfl) rfl
theorem dX11_say_133 : decode cX11_say 133 = .ok (.iload_n 3, 1) := o_29 (u1_5 hc_X11_say_128 rfl) rfl
theorem dX11_say_134 : decode cX11_say 134 = .ok (.iload 5, 2) := o_21 (u1_6 hc_X11_say_128 rfl) (u1_7 hc_X11_say_128 rfl) rfl
theorem dX11_say_136 : decode cX11_say 136 = .ok (.invokevirtual 174, 3) := o_182 (u1_8 hc_X11_say_128 rfl) (u2_d (u1_9 hc_X11_say_128 rfl) (u1_10 hc_X11_say_128 rfl) rfl) rfl
theorem dX11_say_139 : decode cX11_say 139 = .ok (.istore 7, 2) := o_54 (u1_11 hc_X11_say_128 rfl) (u1_12 hc_X11_say_128 rfl) rfl
theorem dX11_say_141 : decode cX11_say 141 = .ok (.aload_n 0, 1) := o_42 (u1_13 hc_X11_say_128 rfl) rfl
theorem dX11_say_142 : decode cX11_say 142 = .ok (.getfield 30, 3) := o_180 (u1_14 hc_X11_say_128 rfl) (u2_d (u1_15 hc_X11_say_128 rfl) (u1_16 hc_X11_say_128 rfl) rfl) rfl
theorem hc_X11_say_144 : ((bL cX11_say).drop 144).take 18 = [30, 27, 182, 0, 177, 21, 7, 172] := by decide +kernel
theorem dX11_say_145 : decode cX11_say 145 = .ok (.iload_n 1, 1) := o_27 (u1_1 hc_X11_say_144 rfl) rfl
theorem dX11_say_146 : decode cX11_say 146 = .ok (.invokevirtual 177, 3) := o_182 (u1_2 hc_X11_say_144 rfl) (u2_d (u1_3 hc_X11_say_144 rfl) (u1_4 hc_X11_say_144 rfl) rfl) rfl
theorem dX11_say_149 : decode cX11_say 149 = .ok (.iload 7, 2) := o_21 (u1_5 hc_X11_say_144 rfl) (u1_6 hc_X11_say_144 rfl) rfl
theorem dX11_say_151 : decode cX11_say 151 = .ok (.ireturn, 1) := o_172 (u1_7 hc_X11_say_144 rfl) rfl
theorem hc_X11_unsay_0 : ((bL cX11_unsay).drop 0).take 18 = [27, 42, 180, 0, 21, 180, 0, 168, 184, 0, 91, 153, 0, 15, 42, 180, 0, 21] := by decide +kernel
theorem dX11_unsay_0 : decode cX11_unsay 0 = .ok (.iload_n 1, 1) := o_27 (u1_0 hc_X11_unsay_0 rfl) rfl
theorem dX11_unsay_1 : decode cX11_unsay 1 = .ok (.aload_n 0, 1) := o_42 (u1_1 hc_X11_unsay_0 rfl) rfl
theorem dX11_unsay_2 : decode cX11_unsay 2 = .ok (.getfield 21, 3) := o_180 (u1_2 hc_X11_unsay_0 rfl) (u2_d (u1_3 hc_X11_unsay_0 rfl) (u1_4 hc_X11_unsay_0 rfl) rfl) rfl
theorem dX11_unsay_5 : decode cX11_unsay 5 = .ok (.getfield 168, 3) := o_180 (u1_5 hc_X11_unsay_0 rfl) (u2_d (u1_6 hc_X11_unsay_0 rfl) (u1_7 hc_X11_unsay_0 rfl) rfl) rfl
theorem dX11_unsay_8 : decode cX11_unsay 8 = .ok (.invokestatic 91, 3) := o_184 (u1_8 hc_X11_unsay_0 rfl) (u2_d (u1_9 hc_X11_unsay_0 rfl) (u1_10 hc_X11_unsay_0 rfl) rfl) rfl
theorem dX11_unsay_11 : decode cX11_unsay 11 = .ok (.ifCond .eq 15, 3) := o_153 (u1_11 hc_X11_unsay_0 rfl) (s2_d (u2_d (u1_12 hc_X11_unsay_0 rfl) (u1_13 hc_X11_unsay_0 rfl) rfl) rfl) rfl
theorem dX11_unsay_14 : decode cX11_unsay 14 = .ok (.aload_n 0, 1) := o_42 (u1_14 hc_X11_unsay_0 rfl) rfl
theorem dX11_unsay_15 : decode cX11_unsay 15 = .ok (.getfield 21, 3) := o_180 (u1_15 hc_X11_unsay_0 rfl) (u2_d (u1_16 hc_X11_unsay_0 rfl) (u1_17 hc_X11_unsay_0 rfl) rfl) rfl
theorem hc_X11_unsay_16 : ((bL cX11_unsay).drop 16).take 18 = [0, 21, 180, 0, 181, 27, 51, 154, 0, 5, 2, 172, 42, 180, 0, 46, 182, 0] := by decide +kernel
theorem dX11_unsay_18 : decode cX11_unsay 18 = .ok (.getfield 181, 3) := o_180 (u1_2 hc_X11_unsay_16 rfl) (u2_d (u1_3 hc_X11_unsay_16 rfl) (u1_4 hc_X11_unsay_16 rfl) rfl) rfl
theorem dX11_unsay_21 : decode cX11_unsay 21 = .ok (.iload_n 1, 1) := o_27 (u1_5 hc_X11_unsay_16 rfl) rfl
theorem dX11_unsay_22 : decode cX11_unsay 22 = .ok (.baload, 1) := o_51 (u1_6 hc_X11_unsay_16 rfl) rfl
theorem dX11_unsay_23 : decode cX11_unsay 23 = .ok (.ifCond .ne 5, 3) := o_154 (u1_7 hc_X11_unsay_16 rfl) (s2_d (u2_d (u1_8 hc_X11_unsay_16 rfl) (u1_9 hc_X11_unsay_16 rfl) rfl) rfl) rfl
theorem dX11_unsay_26 : decode cX11_unsay 26 = .ok (.iconst (-1), 1) := o_2 (u1_10 hc_X11_unsay_16 rfl) rfl
theorem dX11_unsay_27 : decode cX11_unsay 27 = .ok (.ireturn, 1) := o_172 (u1_11 hc_X11_unsay_16 rfl) rfl
theorem dX11_unsay_28 : decode cX11_unsay 28 = .ok (.aload_n 0, 1) := o_42 (u1_12 hc_X11_unsay_16 rfl) rfl
theorem dX11_unsay_29 : decode cX11_unsay 29 = .ok (.getfield 46, 3) := o_180 (u1_13 hc_X11_unsay_16 rfl) (u2_d (u1_14 hc_X11_unsay_16 rfl) (u1_15 hc_X11_unsay_16 rfl) rfl) rfl
theorem hc_X11_unsay_32 : ((bL cX11_unsay).drop 32).take 18 = [182, 0, 95, 42, 180, 0, 21, 27, 182, 0, 185, 42, 180, 0, 30, 42, 180, 0] := by decide +kernel
theorem dX11_unsay_32 : decode cX11_unsay 32 = .ok (.invokevirtual 95, 3) := o_182 (u1_0 hc_X11_unsay_32 rfl) (u2_d (u1_1 hc_X11_unsay_32 rfl) (u1_2 hc_X11_unsay_32 rfl) rfl) rfl
theorem dX11_unsay_35 : decode cX11_unsay 35 = .ok (.aload_n 0, 1) := o_42 (u1_3 hc_X11_unsay_32 rfl) rfl
theorem dX11_unsay_36 : decode cX11_unsay 36 = .ok (.getfield 21, 3) := o_180 (u1_4 hc_X11_unsay_32 rfl) (u2_d (u1_5 hc_X11_unsay_32 rfl) (u1_6 hc_X11_unsay_32 rfl) rfl) rfl
theorem dX11_unsay_39 : decode cX11_unsay 39 = .ok (.iload_n 1, 1) := o_27 (u1_7 hc_X11_unsay_32 rfl) rfl
theorem dX11_unsay_40 : decode cX11_unsay 40 = .ok (.invokevirtual 185, 3) := o_182 (u1_8 hc_X11_unsay_32 rfl) (u2_d (u1_9 hc_X11_unsay_32 rfl) (u1_10 hc_X11_unsay_32 rfl) rfl) rfl
theorem dX11_unsay_43 : decode cX11_unsay 43 = .ok (.aload_n 0, 1) := o_42 (u1_11 hc_X11_unsay_32 rfl) rfl
theorem dX11_unsay_44 : decode cX11_unsay 44 = .ok (.getfield 30, 3) := o_180 (u1_12 hc_X11_unsay_32 rfl) (u2_d (u1_13 hc_X11_unsay_32 rfl) (u1_14 hc_X11_unsay_32 rfl) rfl) rfl
theorem dX11_unsay_47 : decode cX11_unsay 47 = .ok (.aload_n 0, 1) := o_42 (u1_15 hc_X11_unsay_32 rfl) rfl
theorem hc_X11_unsay_48 : ((bL cX11_unsay).drop 48).take 18 = [180, 0, 21, 180, 0, 188, 27, 46, 182, 0, 177, 42, 180, 0, 21, 180, 0, 191] := by decide +kernel
theorem dX11_unsay_48 : decode cX11_unsay 48 = .ok (.getfield 21, 3) := o_180 (u1_0 hc_X11_unsay_48 rfl) (u2_d (u1_1 hc_X11_unsay_48 rfl) (u1_2 hc_X11_unsay_48 rfl) rfl) rfl
theorem dX11_unsay_51 : decode cX11_unsay 51 = .ok (.getfield 188, 3) := o_180 (u1_3 hc_X11_unsay_48 rfl) (u2_d (u1_4 hc_X11_unsay_48 rfl) (u1_5 hc_X11_unsay_48 rfl) rfl) rfl
theorem dX11_unsay_54 : decode cX11_unsay 54 = .ok (.iload_n 1, 1) := o_27 (u1_6 hc_X11_unsay_48 rfl) rfl
theorem dX11_unsay_55 : decode cX11_unsay 55 = .ok (.iaload, 1) := o_46 (u1_7 hc_X11_unsay_48 rfl) rfl
theorem dX11_unsay_56 : decode cX11_unsay 56 = .ok (.invokevirtual 177, 3) := o_182 (u1_8 hc_X11_unsay_48 rfl) (u2_d (u1_9 hc_X11_unsay_48 rfl) (u1_10 hc_X11_unsay_48 rfl) rfl) rfl
theorem dX11_unsay_59 : decode cX11_unsay 59 = .ok (.aload_n 0, 1) := o_42 (u1_11 hc_X11_unsay_48 rfl) rfl
theorem dX11_unsay_60 : decode cX11_unsay 60 = .ok (.getfield 21, 3) := o_180 (u1_12 hc_X11_unsay_48 rfl) (u2_d (u1_13 hc_X11_unsay_48 rfl) (u1_14 hc_X11_unsay_48 rfl) rfl) rfl
theorem dX11_unsay_63 : decode cX11_unsay 63 = .ok (.getfield 191, 3) := o_180 (u1_15 hc_X11_unsay_48 rfl) (u2_d (u1_16 hc_X11_unsay_48 rfl) (u1_17 hc_X11_unsay_48 rfl) rfl) rfl
theorem hc_X11_unsay_64 : ((bL cX11_unsay).drop 64).take 18 = [0, 191, 172] := by decide +kernel
theorem dX11_unsay_66 : decode cX11_unsay 66 = .ok (.ireturn, 1) := o_172 (u1_2 hc_X11_unsay_64 rfl) rfl
theorem hc_X11_clash_0 : ((bL cX11_clash).drop 0).take 18 = [27, 42, 180, 0, 21, 180, 0, 194, 184, 0, 91, 153, 0, 15, 42, 180, 0, 21] := by decide +kernel
theorem dX11_clash_0 : decode cX11_clash 0 = .ok (.iload_n 1, 1) := o_27 (u1_0 hc_X11_clash_0 rfl) rfl
theorem dX11_clash_1 : decode cX11_clash 1 = .ok (.aload_n 0, 1) := o_42 (u1_1 hc_X11_clash_0 rfl) rfl
theorem dX11_clash_2 : decode cX11_clash 2 = .ok (.getfield 21, 3) := o_180 (u1_2 hc_X11_clash_0 rfl) (u2_d (u1_3 hc_X11_clash_0 rfl) (u1_4 hc_X11_clash_0 rfl) rfl) rfl
theorem dX11_clash_5 : decode cX11_clash 5 = .ok (.getfield 194, 3) := o_180 (u1_5 hc_X11_clash_0 rfl) (u2_d (u1_6 hc_X11_clash_0 rfl) (u1_7 hc_X11_clash_0 rfl) rfl) rfl
theorem dX11_clash_8 : decode cX11_clash 8 = .ok (.invokestatic 91, 3) := o_184 (u1_8 hc_X11_clash_0 rfl) (u2_d (u1_9 hc_X11_clash_0 rfl) (u1_10 hc_X11_clash_0 rfl) rfl) rfl
theorem dX11_clash_11 : decode cX11_clash 11 = .ok (.ifCond .eq 15, 3) := o_153 (u1_11 hc_X11_clash_0 rfl) (s2_d (u2_d (u1_12 hc_X11_clash_0 rfl) (u1_13 hc_X11_clash_0 rfl) rfl) rfl) rfl
theorem dX11_clash_14 : decode cX11_clash 14 = .ok (.aload_n 0, 1) := o_42 (u1_14 hc_X11_clash_0 rfl) rfl
theorem dX11_clash_15 : decode cX11_clash 15 = .ok (.getfield 21, 3) := o_180 (u1_15 hc_X11_clash_0 rfl) (u2_d (u1_16 hc_X11_clash_0 rfl) (u1_17 hc_X11_clash_0 rfl) rfl) rfl
theorem hc_X11_clash_16 : ((bL cX11_clash).drop 16).take 18 = [0, 21, 180, 0, 197, 27, 46, 167, 0, 5, 16, 247, 172] := by decide +kernel
theorem dX11_clash_18 : decode cX11_clash 18 = .ok (.getfield 197, 3) := o_180 (u1_2 hc_X11_clash_16 rfl) (u2_d (u1_3 hc_X11_clash_16 rfl) (u1_4 hc_X11_clash_16 rfl) rfl) rfl
theorem dX11_clash_21 : decode cX11_clash 21 = .ok (.iload_n 1, 1) := o_27 (u1_5 hc_X11_clash_16 rfl) rfl
theorem dX11_clash_22 : decode cX11_clash 22 = .ok (.iaload, 1) := o_46 (u1_6 hc_X11_clash_16 rfl) rfl
theorem dX11_clash_23 : decode cX11_clash 23 = .ok (.goto 5, 3) := o_167 (u1_7 hc_X11_clash_16 rfl) (s2_d (u2_d (u1_8 hc_X11_clash_16 rfl) (u1_9 hc_X11_clash_16 rfl) rfl) rfl) rfl
theorem dX11_clash_26 : decode cX11_clash 26 = .ok (.bipush (-9), 2) := o_16 (u1_10 hc_X11_clash_16 rfl) (s1_d (u1_11 hc_X11_clash_16 rfl) rfl) rfl
theorem dX11_clash_28 : decode cX11_clash 28 = .ok (.ireturn, 1) := o_172 (u1_12 hc_X11_clash_16 rfl) rfl
theorem hc_X11_sentence_0 : ((bL cX11_sentence).drop 0).take 18 = [27, 42, 180, 0, 21, 180, 0, 168, 184, 0, 91, 153, 0, 11, 28, 8, 184, 0] := by decide +kernel
theorem dX11_sentence_0 : decode cX11_sentence 0 = .ok (.iload_n 1, 1) := o_27 (u1_0 hc_X11_sentence_0 rfl) rfl
theorem dX11_sentence_1 : decode cX11_sentence 1 = .ok (.aload_n 0, 1) := o_42 (u1_1 hc_X11_sentence_0 rfl) rfl
theorem dX11_sentence_2 : decode cX11_sentence 2 = .ok (.getfield 21, 3) := o_180 (u1_2 hc_X11_sentence_0 rfl) (u2_d (u1_3 hc_X11_sentence_0 rfl) (u1_4 hc_X11_sentence_0 rfl) rfl) rfl
theorem dX11_sentence_5 : decode cX11_sentence 5 = .ok (.getfield 168, 3) := o_180 (u1_5 hc_X11_sentence_0 rfl) (u2_d (u1_6 hc_X11_sentence_0 rfl) (u1_7 hc_X11_sentence_0 rfl) rfl) rfl
theorem dX11_sentence_8 : decode cX11_sentence 8 = .ok (.invokestatic 91, 3) := o_184 (u1_8 hc_X11_sentence_0 rfl) (u2_d (u1_9 hc_X11_sentence_0 rfl) (u1_10 hc_X11_sentence_0 rfl) rfl) rfl
theorem dX11_sentence_11 : decode cX11_sentence 11 = .ok (.ifCond .eq 11, 3) := o_153 (u1_11 hc_X11_sentence_0 rfl) (s2_d (u2_d (u1_12 hc_X11_sentence_0 rfl) (u1_13 hc_X11_sentence_0 rfl) rfl) rfl) rfl
theorem dX11_sentence_14 : decode cX11_sentence 14 = .ok (.iload_n 2, 1) := o_28 (u1_14 hc_X11_sentence_0 rfl) rfl
theorem dX11_sentence_15 : decode cX11_sentence 15 = .ok (.iconst 5, 1) := o_8 (u1_15 hc_X11_sentence_0 rfl) rfl
theorem hc_X11_sentence_16 : ((bL cX11_sentence).drop 16).take 18 = [184, 0, 91, 154, 0, 5, 2, 172, 42, 180, 0, 21, 27, 28, 182, 0, 200, 172] := by decide +kernel
theorem dX11_sentence_16 : decode cX11_sentence 16 = .ok (.invokestatic 91, 3) := o_184 (u1_0 hc_X11_sentence_16 rfl) (u2_d (u1_1 hc_X11_sentence_16 rfl) (u1_2 hc_X11_sentence_16 rfl) rfl) rfl
theorem dX11_sentence_19 : decode cX11_sentence 19 = .ok (.ifCond .ne 5, 3) := o_154 (u1_3 hc_X11_sentence_16 rfl) (s2_d (u2_d (u1_4 hc_X11_sentence_16 rfl) (u1_5 hc_X11_sentence_16 rfl) rfl) rfl) rfl
theorem dX11_sentence_22 : decode cX11_sentence 22 = .ok (.iconst (-1), 1) := o_2 (u1_6 hc_X11_sentence_16 rfl) rfl
theorem dX11_sentence_23 : decode cX11_sentence 23 = .ok (.ireturn, 1) := o_172 (u1_7 hc_X11_sentence_16 rfl) rfl
theorem dX11_sentence_24 : decode cX11_sentence 24 = .ok (.aload_n 0, 1) := o_42 (u1_8 hc_X11_sentence_16 rfl) rfl
theorem dX11_sentence_25 : decode cX11_sentence 25 = .ok (.getfield 21, 3) := o_180 (u1_9 hc_X11_sentence_16 rfl) (u2_d (u1_10 hc_X11_sentence_16 rfl) (u1_11 hc_X11_sentence_16 rfl) rfl) rfl
theorem dX11_sentence_28 : decode cX11_sentence 28 = .ok (.iload_n 1, 1) := o_27 (u1_12 hc_X11_sentence_16 rfl) rfl
theorem dX11_sentence_29 : decode cX11_sentence 29 = .ok (.iload_n 2, 1) := o_28 (u1_13 hc_X11_sentence_16 rfl) rfl
theorem dX11_sentence_30 : decode cX11_sentence 30 = .ok (.invokevirtual 200, 3) := o_182 (u1_14 hc_X11_sentence_16 rfl) (u2_d (u1_15 hc_X11_sentence_16 rfl) (u1_16 hc_X11_sentence_16 rfl) rfl) rfl
theorem hc_X11_sentence_32 : ((bL cX11_sentence).drop 32).take 18 = [200, 172] := by decide +kernel
theorem dX11_sentence_33 : decode cX11_sentence 33 = .ok (.ireturn, 1) := o_172 (u1_1 hc_X11_sentence_32 rfl) rfl
theorem hc_X11_place_0 : ((bL cX11_place).drop 0).take 18 = [42, 180, 0, 10, 27, 182, 0, 109, 153, 0, 11, 28, 6, 184, 0, 91, 154, 0] := by decide +kernel
theorem dX11_place_0 : decode cX11_place 0 = .ok (.aload_n 0, 1) := o_42 (u1_0 hc_X11_place_0 rfl) rfl
theorem dX11_place_1 : decode cX11_place 1 = .ok (.getfield 10, 3) := o_180 (u1_1 hc_X11_place_0 rfl) (u2_d (u1_2 hc_X11_place_0 rfl) (u1_3 hc_X11_place_0 rfl) rfl) rfl
theorem dX11_place_4 : decode cX11_place 4 = .ok (.iload_n 1, 1) := o_27 (u1_4 hc_X11_place_0 rfl) rfl
theorem dX11_place_5 : decode cX11_place 5 = .ok (.invokevirtual 109, 3) := o_182 (u1_5 hc_X11_place_0 rfl) (u2_d (u1_6 hc_X11_place_0 rfl) (u1_7 hc_X11_place_0 rfl) rfl) rfl
theorem dX11_place_8 : decode cX11_place 8 = .ok (.ifCond .eq 11, 3) := o_153 (u1_8 hc_X11_place_0 rfl) (s2_d (u2_d (u1_9 hc_X11_place_0 rfl) (u1_10 hc_X11_place_0 rfl) rfl) rfl) rfl
theorem dX11_place_11 : decode cX11_place 11 = .ok (.iload_n 2, 1) := o_28 (u1_11 hc_X11_place_0 rfl) rfl
theorem dX11_place_12 : decode cX11_place 12 = .ok (.iconst 3, 1) := o_6 (u1_12 hc_X11_place_0 rfl) rfl
theorem dX11_place_13 : decode cX11_place 13 = .ok (.invokestatic 91, 3) := o_184 (u1_13 hc_X11_place_0 rfl) (u2_d (u1_14 hc_X11_place_0 rfl) (u1_15 hc_X11_place_0 rfl) rfl) rfl
theorem hc_X11_place_16 : ((bL cX11_place).drop 16).take 18 = [154, 0, 5, 2, 172, 28, 171, 0, 0, 0, 0, 54, 0, 0, 0, 2, 0, 0] := by decide +kernel
theorem dX11_place_16 : decode cX11_place 16 = .ok (.ifCond .ne 5, 3) := o_154 (u1_0 hc_X11_place_16 rfl) (s2_d (u2_d (u1_1 hc_X11_place_16 rfl) (u1_2 hc_X11_place_16 rfl) rfl) rfl) rfl
theorem dX11_place_19 : decode cX11_place 19 = .ok (.iconst (-1), 1) := o_2 (u1_3 hc_X11_place_16 rfl) rfl
theorem dX11_place_20 : decode cX11_place 20 = .ok (.ireturn, 1) := o_172 (u1_4 hc_X11_place_16 rfl) rfl
theorem dX11_place_21 : decode cX11_place 21 = .ok (.iload_n 2, 1) := o_28 (u1_5 hc_X11_place_16 rfl) rfl
theorem dX11_place_22 : decode cX11_place 22 = .ok (.lookupswitch 54 #[(0, 26), (1, 40)], 26) := by decide +kernel
theorem hc_X11_place_48 : ((bL cX11_place).drop 48).take 18 = [42, 180, 0, 21, 180, 0, 203, 27, 182, 0, 206, 167, 0, 26, 42, 180, 0, 21] := by decide +kernel
theorem dX11_place_48 : decode cX11_place 48 = .ok (.aload_n 0, 1) := o_42 (u1_0 hc_X11_place_48 rfl) rfl
theorem dX11_place_49 : decode cX11_place 49 = .ok (.getfield 21, 3) := o_180 (u1_1 hc_X11_place_48 rfl) (u2_d (u1_2 hc_X11_place_48 rfl) (u1_3 hc_X11_place_48 rfl) rfl) rfl
theorem dX11_place_52 : decode cX11_place 52 = .ok (.getfield 203, 3) := o_180 (u1_4 hc_X11_place_48 rfl) (u2_d (u1_5 hc_X11_place_48 rfl) (u1_6 hc_X11_place_48 rfl) rfl) rfl
theorem dX11_place_55 : decode cX11_place 55 = .ok (.iload_n 1, 1) := o_27 (u1_7 hc_X11_place_48 rfl) rfl
theorem dX11_place_56 : decode cX11_place 56 = .ok (.invokevirtual 206, 3) := o_182 (u1_8 hc_X11_place_48 rfl) (u2_d (u1_9 hc_X11_place_48 rfl) (u1_10 hc_X11_place_48 rfl) rfl) rfl
theorem dX11_place_59 : decode cX11_place 59 = .ok (.goto 26, 3) := o_167 (u1_11 hc_X11_place_48 rfl) (s2_d (u2_d (u1_12 hc_X11_place_48 rfl) (u1_13 hc_X11_place_48 rfl) rfl) rfl) rfl
theorem dX11_place_62 : decode cX11_place 62 = .ok (.aload_n 0, 1) := o_42 (u1_14 hc_X11_place_48 rfl) rfl
theorem dX11_place_63 : decode cX11_place 63 = .ok (.getfield 21, 3) := o_180 (u1_15 hc_X11_place_48 rfl) (u2_d (u1_16 hc_X11_place_48 rfl) (u1_17 hc_X11_place_48 rfl) rfl) rfl
theorem hc_X11_place_64 : ((bL cX11_place).drop 64).take 18 = [0, 21, 180, 0, 203, 27, 182, 0, 211, 167, 0, 12, 42, 180, 0, 21, 180, 0] := by decide +kernel
theorem dX11_place_66 : decode cX11_place 66 = .ok (.getfield 203, 3) := o_180 (u1_2 hc_X11_place_64 rfl) (u2_d (u1_3 hc_X11_place_64 rfl) (u1_4 hc_X11_place_64 rfl) rfl) rfl
theorem dX11_place_69 : decode cX11_place 69 = .ok (.iload_n 1, 1) := o_27 (u1_5 hc_X11_place_64 rfl) rfl
theorem dX11_place_70 : decode cX11_place 70 = .ok (.invokevirtual 211, 3) := o_182 (u1_6 hc_X11_place_64 rfl) (u2_d (u1_7 hc_X11_place_64 rfl) (u1_8 hc_X11_place_64 rfl) rfl) rfl
theorem dX11_place_73 : decode cX11_place 73 = .ok (.goto 12, 3) := o_167 (u1_9 hc_X11_place_64 rfl) (s2_d (u2_d (u1_10 hc_X11_place_64 rfl) (u1_11 hc_X11_place_64 rfl) rfl) rfl) rfl
theorem dX11_place_76 : decode cX11_place 76 = .ok (.aload_n 0, 1) := o_42 (u1_12 hc_X11_place_64 rfl) rfl
theorem dX11_place_77 : decode cX11_place 77 = .ok (.getfield 21, 3) := o_180 (u1_13 hc_X11_place_64 rfl) (u2_d (u1_14 hc_X11_place_64 rfl) (u1_15 hc_X11_place_64 rfl) rfl) rfl
theorem hc_X11_place_80 : ((bL cX11_place).drop 80).take 18 = [180, 0, 214, 27, 46, 172] := by decide +kernel
theorem dX11_place_80 : decode cX11_place 80 = .ok (.getfield 214, 3) := o_180 (u1_0 hc_X11_place_80 rfl) (u2_d (u1_1 hc_X11_place_80 rfl) (u1_2 hc_X11_place_80 rfl) rfl) rfl
theorem dX11_place_83 : decode cX11_place 83 = .ok (.iload_n 1, 1) := o_27 (u1_3 hc_X11_place_80 rfl) rfl
theorem dX11_place_84 : decode cX11_place 84 = .ok (.iaload, 1) := o_46 (u1_4 hc_X11_place_80 rfl) rfl
theorem dX11_place_85 : decode cX11_place 85 = .ok (.ireturn, 1) := o_172 (u1_5 hc_X11_place_80 rfl) rfl
theorem hc_X11_exit_0 : ((bL cX11_exit).drop 0).take 18 = [42, 180, 0, 10, 27, 182, 0, 109, 153, 0, 20, 28, 16, 10, 184, 0, 91, 153] := by decide +kernel
theorem dX11_exit_0 : decode cX11_exit 0 = .ok (.aload_n 0, 1) := o_42 (u1_0 hc_X11_exit_0 rfl) rfl
theorem dX11_exit_1 : decode cX11_exit 1 = .ok (.getfield 10, 3) := o_180 (u1_1 hc_X11_exit_0 rfl) (u2_d (u1_2 hc_X11_exit_0 rfl) (u1_3 hc_X11_exit_0 rfl) rfl) rfl
theorem dX11_exit_4 : decode cX11_exit 4 = .ok (.iload_n 1, 1) := o_27 (u1_4 hc_X11_exit_0 rfl) rfl
theorem dX11_exit_5 : decode cX11_exit 5 = .ok (.invokevirtual 109, 3) := o_182 (u1_5 hc_X11_exit_0 rfl) (u2_d (u1_6 hc_X11_exit_0 rfl) (u1_7 hc_X11_exit_0 rfl) rfl) rfl
theorem dX11_exit_8 : decode cX11_exit 8 = .ok (.ifCond .eq 20, 3) := o_153 (u1_8 hc_X11_exit_0 rfl) (s2_d (u2_d (u1_9 hc_X11_exit_0 rfl) (u1_10 hc_X11_exit_0 rfl) rfl) rfl) rfl
theorem dX11_exit_11 : decode cX11_exit 11 = .ok (.iload_n 2, 1) := o_28 (u1_11 hc_X11_exit_0 rfl) rfl
theorem dX11_exit_12 : decode cX11_exit 12 = .ok (.bipush 10, 2) := o_16 (u1_12 hc_X11_exit_0 rfl) (s1_d (u1_13 hc_X11_exit_0 rfl) rfl) rfl
theorem dX11_exit_14 : decode cX11_exit 14 = .ok (.invokestatic 91, 3) := o_184 (u1_14 hc_X11_exit_0 rfl) (u2_d (u1_15 hc_X11_exit_0 rfl) (u1_16 hc_X11_exit_0 rfl) rfl) rfl
theorem hc_X11_exit_16 : ((bL cX11_exit).drop 16).take 18 = [91, 153, 0, 11, 29, 7, 184, 0, 91, 154, 0, 5, 2, 172, 42, 180, 0, 10] := by decide +kernel
theorem dX11_exit_17 : decode cX11_exit 17 = .ok (.ifCond .eq 11, 3) := o_153 (u1_1 hc_X11_exit_16 rfl) (s2_d (u2_d (u1_2 hc_X11_exit_16 rfl) (u1_3 hc_X11_exit_16 rfl) rfl) rfl) rfl
theorem dX11_exit_20 : decode cX11_exit 20 = .ok (.iload_n 3, 1) := o_29 (u1_4 hc_X11_exit_16 rfl) rfl
theorem dX11_exit_21 : decode cX11_exit 21 = .ok (.iconst 4, 1) := o_7 (u1_5 hc_X11_exit_16 rfl) rfl
theorem dX11_exit_22 : decode cX11_exit 22 = .ok (.invokestatic 91, 3) := o_184 (u1_6 hc_X11_exit_16 rfl) (u2_d (u1_7 hc_X11_exit_16 rfl) (u1_8 hc_X11_exit_16 rfl) rfl) rfl
theorem dX11_exit_25 : decode cX11_exit 25 = .ok (.ifCond .ne 5, 3) := o_154 (u1_9 hc_X11_exit_16 rfl) (s2_d (u2_d (u1_10 hc_X11_exit_16 rfl) (u1_11 hc_X11_exit_16 rfl) rfl) rfl) rfl
theorem dX11_exit_28 : decode cX11_exit 28 = .ok (.iconst (-1), 1) := o_2 (u1_12 hc_X11_exit_16 rfl) rfl
theorem dX11_exit_29 : decode cX11_exit 29 = .ok (.ireturn, 1) := o_172 (u1_13 hc_X11_exit_16 rfl) rfl
theorem dX11_exit_30 : decode cX11_exit 30 = .ok (.aload_n 0, 1) := o_42 (u1_14 hc_X11_exit_16 rfl) rfl
theorem dX11_exit_31 : decode cX11_exit 31 = .ok (.getfield 10, 3) := o_180 (u1_15 hc_X11_exit_16 rfl) (u2_d (u1_16 hc_X11_exit_16 rfl) (u1_17 hc_X11_exit_16 rfl) rfl) rfl
theorem hc_X11_exit_32 : ((bL cX11_exit).drop 32).take 18 = [0, 10, 27, 182, 0, 125, 153, 0, 9, 42, 6, 182, 0, 128, 172, 42, 180, 0] := by decide +kernel
theorem dX11_exit_34 : decode cX11_exit 34 = .ok (.iload_n 1, 1) := o_27 (u1_2 hc_X11_exit_32 rfl) rfl
theorem dX11_exit_35 : decode cX11_exit 35 = .ok (.invokevirtual 125, 3) := o_182 (u1_3 hc_X11_exit_32 rfl) (u2_d (u1_4 hc_X11_exit_32 rfl) (u1_5 hc_X11_exit_32 rfl) rfl) rfl
theorem dX11_exit_38 : decode cX11_exit 38 = .ok (.ifCond .eq 9, 3) := o_153 (u1_6 hc_X11_exit_32 rfl) (s2_d (u2_d (u1_7 hc_X11_exit_32 rfl) (u1_8 hc_X11_exit_32 rfl) rfl) rfl) rfl
theorem dX11_exit_41 : decode cX11_exit 41 = .ok (.aload_n 0, 1) := o_42 (u1_9 hc_X11_exit_32 rfl) rfl
theorem dX11_exit_42 : decode cX11_exit 42 = .ok (.iconst 3, 1) := o_6 (u1_10 hc_X11_exit_32 rfl) rfl
theorem dX11_exit_43 : decode cX11_exit 43 = .ok (.invokevirtual 128, 3) := o_182 (u1_11 hc_X11_exit_32 rfl) (u2_d (u1_12 hc_X11_exit_32 rfl) (u1_13 hc_X11_exit_32 rfl) rfl) rfl
theorem dX11_exit_46 : decode cX11_exit 46 = .ok (.ireturn, 1) := o_172 (u1_14 hc_X11_exit_32 rfl) rfl
theorem dX11_exit_47 : decode cX11_exit 47 = .ok (.aload_n 0, 1) := o_42 (u1_15 hc_X11_exit_32 rfl) rfl
theorem hc_X11_exit_48 : ((bL cX11_exit).drop 48).take 18 = [180, 0, 30, 27, 16, 10, 104, 28, 96, 29, 182, 0, 217, 172] := by decide +kernel
theorem dX11_exit_48 : decode cX11_exit 48 = .ok (.getfield 30, 3) := o_180 (u1_0 hc_X11_exit_48 rfl) (u2_d (u1_1 hc_X11_exit_48 rfl) (u1_2 hc_X11_exit_48 rfl) rfl) rfl
theorem dX11_exit_51 : decode cX11_exit 51 = .ok (.iload_n 1, 1) := o_27 (u1_3 hc_X11_exit_48 rfl) rfl
theorem dX11_exit_52 : decode cX11_exit 52 = .ok (.bipush 10, 2) := o_16 (u1_4 hc_X11_exit_48 rfl) (s1_d (u1_5 hc_X11_exit_48 rfl) rfl) rfl
theorem dX11_exit_54 : decode cX11_exit 54 = .ok (.imul, 1) := o_104 (u1_6 hc_X11_exit_48 rfl) rfl
theorem dX11_exit_55 : decode cX11_exit 55 = .ok (.iload_n 2, 1) := o_28 (u1_7 hc_X11_exit_48 rfl) rfl
theorem dX11_exit_56 : decode cX11_exit 56 = .ok (.iadd, 1) := o_96 (u1_8 hc_X11_exit_48 rfl) rfl
theorem dX11_exit_57 : decode cX11_exit 57 = .ok (.iload_n 3, 1) := o_29 (u1_9 hc_X11_exit_48 rfl) rfl
theorem dX11_exit_58 : decode cX11_exit 58 = .ok (.invokevirtual 217, 3) := o_182 (u1_10 hc_X11_exit_48 rfl) (u2_d (u1_11 hc_X11_exit_48 rfl) (u1_12 hc_X11_exit_48 rfl) rfl) rfl
theorem dX11_exit_61 : decode cX11_exit 61 = .ok (.ireturn, 1) := o_172 (u1_13 hc_X11_exit_48 rfl) rfl
theorem hc_X11_flag_0 : ((bL cX11_flag).drop 0).take 18 = [42, 180, 0, 10, 27, 182, 0, 109, 153, 0, 12, 28, 16, 6, 184, 0, 91, 154] := by decide +kernel
theorem dX11_flag_0 : decode cX11_flag 0 = .ok (.aload_n 0, 1) := o_42 (u1_0 hc_X11_flag_0 rfl) rfl
theorem dX11_flag_1 : decode cX11_flag 1 = .ok (.getfield 10, 3) := o_180 (u1_1 hc_X11_flag_0 rfl) (u2_d (u1_2 hc_X11_flag_0 rfl) (u1_3 hc_X11_flag_0 rfl) rfl) rfl
theorem dX11_flag_4 : decode cX11_flag 4 = .ok (.iload_n 1, 1) := o_27 (u1_4 hc_X11_flag_0 rfl) rfl
theorem dX11_flag_5 : decode cX11_flag 5 = .ok (.invokevirtual 109, 3) := o_182 (u1_5 hc_X11_flag_0 rfl) (u2_d (u1_6 hc_X11_flag_0 rfl) (u1_7 hc_X11_flag_0 rfl) rfl) rfl
theorem dX11_flag_8 : decode cX11_flag 8 = .ok (.ifCond .eq 12, 3) := o_153 (u1_8 hc_X11_flag_0 rfl) (s2_d (u2_d (u1_9 hc_X11_flag_0 rfl) (u1_10 hc_X11_flag_0 rfl) rfl) rfl) rfl
theorem dX11_flag_11 : decode cX11_flag 11 = .ok (.iload_n 2, 1) := o_28 (u1_11 hc_X11_flag_0 rfl) rfl
theorem dX11_flag_12 : decode cX11_flag 12 = .ok (.bipush 6, 2) := o_16 (u1_12 hc_X11_flag_0 rfl) (s1_d (u1_13 hc_X11_flag_0 rfl) rfl) rfl
theorem dX11_flag_14 : decode cX11_flag 14 = .ok (.invokestatic 91, 3) := o_184 (u1_14 hc_X11_flag_0 rfl) (u2_d (u1_15 hc_X11_flag_0 rfl) (u1_16 hc_X11_flag_0 rfl) rfl) rfl
theorem hc_X11_flag_16 : ((bL cX11_flag).drop 16).take 18 = [91, 154, 0, 5, 2, 172, 42, 180, 0, 10, 27, 28, 182, 0, 220, 154, 0, 9] := by decide +kernel
theorem dX11_flag_17 : decode cX11_flag 17 = .ok (.ifCond .ne 5, 3) := o_154 (u1_1 hc_X11_flag_16 rfl) (s2_d (u2_d (u1_2 hc_X11_flag_16 rfl) (u1_3 hc_X11_flag_16 rfl) rfl) rfl) rfl
theorem dX11_flag_20 : decode cX11_flag 20 = .ok (.iconst (-1), 1) := o_2 (u1_4 hc_X11_flag_16 rfl) rfl
theorem dX11_flag_21 : decode cX11_flag 21 = .ok (.ireturn, 1) := o_172 (u1_5 hc_X11_flag_16 rfl) rfl
theorem dX11_flag_22 : decode cX11_flag 22 = .ok (.aload_n 0, 1) := o_42 (u1_6 hc_X11_flag_16 rfl) rfl
theorem dX11_flag_23 : decode cX11_flag 23 = .ok (.getfield 10, 3) := o_180 (u1_7 hc_X11_flag_16 rfl) (u2_d (u1_8 hc_X11_flag_16 rfl) (u1_9 hc_X11_flag_16 rfl) rfl) rfl
theorem dX11_flag_26 : decode cX11_flag 26 = .ok (.iload_n 1, 1) := o_27 (u1_10 hc_X11_flag_16 rfl) rfl
theorem dX11_flag_27 : decode cX11_flag 27 = .ok (.iload_n 2, 1) := o_28 (u1_11 hc_X11_flag_16 rfl) rfl
theorem dX11_flag_28 : decode cX11_flag 28 = .ok (.invokevirtual 220, 3) := o_182 (u1_12 hc_X11_flag_16 rfl) (u2_d (u1_13 hc_X11_flag_16 rfl) (u1_14 hc_X11_flag_16 rfl) rfl) rfl
theorem dX11_flag_31 : decode cX11_flag 31 = .ok (.ifCond .ne 9, 3) := o_154 (u1_15 hc_X11_flag_16 rfl) (s2_d (u2_d (u1_16 hc_X11_flag_16 rfl) (u1_17 hc_X11_flag_16 rfl) rfl) rfl) rfl
theorem hc_X11_flag_32 : ((bL cX11_flag).drop 32).take 18 = [0, 9, 42, 6, 182, 0, 128, 172, 42, 180, 0, 21, 27, 28, 182, 0, 223, 172] := by decide +kernel
theorem dX11_flag_34 : decode cX11_flag 34 = .ok (.aload_n 0, 1) := o_42 (u1_2 hc_X11_flag_32 rfl) rfl
theorem dX11_flag_35 : decode cX11_flag 35 = .ok (.iconst 3, 1) := o_6 (u1_3 hc_X11_flag_32 rfl) rfl
theorem dX11_flag_36 : decode cX11_flag 36 = .ok (.invokevirtual 128, 3) := o_182 (u1_4 hc_X11_flag_32 rfl) (u2_d (u1_5 hc_X11_flag_32 rfl) (u1_6 hc_X11_flag_32 rfl) rfl) rfl
theorem dX11_flag_39 : decode cX11_flag 39 = .ok (.ireturn, 1) := o_172 (u1_7 hc_X11_flag_32 rfl) rfl
theorem dX11_flag_40 : decode cX11_flag 40 = .ok (.aload_n 0, 1) := o_42 (u1_8 hc_X11_flag_32 rfl) rfl
theorem dX11_flag_41 : decode cX11_flag 41 = .ok (.getfield 21, 3) := o_180 (u1_9 hc_X11_flag_32 rfl) (u2_d (u1_10 hc_X11_flag_32 rfl) (u1_11 hc_X11_flag_32 rfl) rfl) rfl
theorem dX11_flag_44 : decode cX11_flag 44 = .ok (.iload_n 1, 1) := o_27 (u1_12 hc_X11_flag_32 rfl) rfl
theorem dX11_flag_45 : decode cX11_flag 45 = .ok (.iload_n 2, 1) := o_28 (u1_13 hc_X11_flag_32 rfl) rfl
theorem dX11_flag_46 : decode cX11_flag 46 = .ok (.invokevirtual 223, 3) := o_182 (u1_14 hc_X11_flag_32 rfl) (u2_d (u1_15 hc_X11_flag_32 rfl) (u1_16 hc_X11_flag_32 rfl) rfl) rfl
theorem hc_X11_flag_48 : ((bL cX11_flag).drop 48).take 18 = [223, 172] := by decide +kernel
theorem dX11_flag_49 : decode cX11_flag 49 = .ok (.ireturn, 1) := o_172 (u1_1 hc_X11_flag_48 rfl) rfl
theorem hc_X11_key_0 : ((bL cX11_key).drop 0).take 18 = [42, 180, 0, 10, 27, 182, 0, 109, 154, 0, 5, 2, 172, 42, 180, 0, 10, 27] := by decide +kernel
theorem dX11_key_0 : decode cX11_key 0 = .ok (.aload_n 0, 1) := o_42 (u1_0 hc_X11_key_0 rfl) rfl
theorem dX11_key_1 : decode cX11_key 1 = .ok (.getfield 10, 3) := o_180 (u1_1 hc_X11_key_0 rfl) (u2_d (u1_2 hc_X11_key_0 rfl) (u1_3 hc_X11_key_0 rfl) rfl) rfl
theorem dX11_key_4 : decode cX11_key 4 = .ok (.iload_n 1, 1) := o_27 (u1_4 hc_X11_key_0 rfl) rfl
theorem dX11_key_5 : decode cX11_key 5 = .ok (.invokevirtual 109, 3) := o_182 (u1_5 hc_X11_key_0 rfl) (u2_d (u1_6 hc_X11_key_0 rfl) (u1_7 hc_X11_key_0 rfl) rfl) rfl
theorem dX11_key_8 : decode cX11_key 8 = .ok (.ifCond .ne 5, 3) := o_154 (u1_8 hc_X11_key_0 rfl) (s2_d (u2_d (u1_9 hc_X11_key_0 rfl) (u1_10 hc_X11_key_0 rfl) rfl) rfl) rfl
theorem dX11_key_11 : decode cX11_key 11 = .ok (.iconst (-1), 1) := o_2 (u1_11 hc_X11_key_0 rfl) rfl
theorem dX11_key_12 : decode cX11_key 12 = .ok (.ireturn, 1) := o_172 (u1_12 hc_X11_key_0 rfl) rfl
theorem dX11_key_13 : decode cX11_key 13 = .ok (.aload_n 0, 1) := o_42 (u1_13 hc_X11_key_0 rfl) rfl
theorem dX11_key_14 : decode cX11_key 14 = .ok (.getfield 10, 3) := o_180 (u1_14 hc_X11_key_0 rfl) (u2_d (u1_15 hc_X11_key_0 rfl) (u1_16 hc_X11_key_0 rfl) rfl) rfl
theorem hc_X11_key_16 : ((bL cX11_key).drop 16).take 18 = [10, 27, 182, 0, 226, 154, 0, 9, 42, 6, 182, 0, 128, 172, 42, 180, 0, 21] := by decide +kernel
theorem dX11_key_17 : decode cX11_key 17 = .ok (.iload_n 1, 1) := o_27 (u1_1 hc_X11_key_16 rfl) rfl
theorem dX11_key_18 : decode cX11_key 18 = .ok (.invokevirtual 226, 3) := o_182 (u1_2 hc_X11_key_16 rfl) (u2_d (u1_3 hc_X11_key_16 rfl) (u1_4 hc_X11_key_16 rfl) rfl) rfl
theorem dX11_key_21 : decode cX11_key 21 = .ok (.ifCond .ne 9, 3) := o_154 (u1_5 hc_X11_key_16 rfl) (s2_d (u2_d (u1_6 hc_X11_key_16 rfl) (u1_7 hc_X11_key_16 rfl) rfl) rfl) rfl
theorem dX11_key_24 : decode cX11_key 24 = .ok (.aload_n 0, 1) := o_42 (u1_8 hc_X11_key_16 rfl) rfl
theorem dX11_key_25 : decode cX11_key 25 = .ok (.iconst 3, 1) := o_6 (u1_9 hc_X11_key_16 rfl) rfl
theorem dX11_key_26 : decode cX11_key 26 = .ok (.invokevirtual 128, 3) := o_182 (u1_10 hc_X11_key_16 rfl) (u2_d (u1_11 hc_X11_key_16 rfl) (u1_12 hc_X11_key_16 rfl) rfl) rfl
theorem dX11_key_29 : decode cX11_key 29 = .ok (.ireturn, 1) := o_172 (u1_13 hc_X11_key_16 rfl) rfl
theorem dX11_key_30 : decode cX11_key 30 = .ok (.aload_n 0, 1) := o_42 (u1_14 hc_X11_key_16 rfl) rfl
theorem dX11_key_31 : decode cX11_key 31 = .ok (.getfield 21, 3) := o_180 (u1_15 hc_X11_key_16 rfl) (u2_d (u1_16 hc_X11_key_16 rfl) (u1_17 hc_X11_key_16 rfl) rfl) rfl
theorem hc_X11_key_32 : ((bL cX11_key).drop 32).take 18 = [0, 21, 27, 182, 0, 229, 172] := by decide +kernel
theorem dX11_key_34 : decode cX11_key 34 = .ok (.iload_n 1, 1) := o_27 (u1_2 hc_X11_key_32 rfl) rfl
theorem dX11_key_35 : decode cX11_key 35 = .ok (.invokevirtual 229, 3) := o_182 (u1_3 hc_X11_key_32 rfl) (u2_d (u1_4 hc_X11_key_32 rfl) (u1_5 hc_X11_key_32 rfl) rfl) rfl
theorem dX11_key_38 : decode cX11_key 38 = .ok (.ireturn, 1) := o_172 (u1_6 hc_X11_key_32 rfl) rfl
theorem hc_X11_way_0 : ((bL cX11_way).drop 0).take 18 = [42, 27, 28, 182, 0, 232, 54, 4, 21, 4, 153, 0, 6, 21, 4, 172, 42, 180] := by decide +kernel
theorem dX11_way_0 : decode cX11_way 0 = .ok (.aload_n 0, 1) := o_42 (u1_0 hc_X11_way_0 rfl) rfl
theorem dX11_way_1 : decode cX11_way 1 = .ok (.iload_n 1, 1) := o_27 (u1_1 hc_X11_way_0 rfl) rfl
theorem dX11_way_2 : decode cX11_way 2 = .ok (.iload_n 2, 1) := o_28 (u1_2 hc_X11_way_0 rfl) rfl
theorem dX11_way_3 : decode cX11_way 3 = .ok (.invokevirtual 232, 3) := o_182 (u1_3 hc_X11_way_0 rfl) (u2_d (u1_4 hc_X11_way_0 rfl) (u1_5 hc_X11_way_0 rfl) rfl) rfl
theorem dX11_way_6 : decode cX11_way 6 = .ok (.istore 4, 2) := o_54 (u1_6 hc_X11_way_0 rfl) (u1_7 hc_X11_way_0 rfl) rfl
theorem dX11_way_8 : decode cX11_way 8 = .ok (.iload 4, 2) := o_21 (u1_8 hc_X11_way_0 rfl) (u1_9 hc_X11_way_0 rfl) rfl
theorem dX11_way_10 : decode cX11_way 10 = .ok (.ifCond .eq 6, 3) := o_153 (u1_10 hc_X11_way_0 rfl) (s2_d (u2_d (u1_11 hc_X11_way_0 rfl) (u1_12 hc_X11_way_0 rfl) rfl) rfl) rfl
theorem dX11_way_13 : decode cX11_way 13 = .ok (.iload 4, 2) := o_21 (u1_13 hc_X11_way_0 rfl) (u1_14 hc_X11_way_0 rfl) rfl
theorem dX11_way_15 : decode cX11_way 15 = .ok (.ireturn, 1) := o_172 (u1_15 hc_X11_way_0 rfl) rfl
theorem hc_X11_way_16 : ((bL cX11_way).drop 16).take 18 = [42, 180, 0, 30, 27, 29, 182, 0, 235, 42, 180, 0, 30, 180, 0, 239, 28, 46] := by decide +kernel
theorem dX11_way_16 : decode cX11_way 16 = .ok (.aload_n 0, 1) := o_42 (u1_0 hc_X11_way_16 rfl) rfl
theorem dX11_way_17 : decode cX11_way 17 = .ok (.getfield 30, 3) := o_180 (u1_1 hc_X11_way_16 rfl) (u2_d (u1_2 hc_X11_way_16 rfl) (u1_3 hc_X11_way_16 rfl) rfl) rfl
theorem dX11_way_20 : decode cX11_way 20 = .ok (.iload_n 1, 1) := o_27 (u1_4 hc_X11_way_16 rfl) rfl
theorem dX11_way_21 : decode cX11_way 21 = .ok (.iload_n 3, 1) := o_29 (u1_5 hc_X11_way_16 rfl) rfl
theorem dX11_way_22 : decode cX11_way 22 = .ok (.invokevirtual 235, 3) := o_182 (u1_6 hc_X11_way_16 rfl) (u2_d (u1_7 hc_X11_way_16 rfl) (u1_8 hc_X11_way_16 rfl) rfl) rfl
theorem dX11_way_25 : decode cX11_way 25 = .ok (.aload_n 0, 1) := o_42 (u1_9 hc_X11_way_16 rfl) rfl
theorem dX11_way_26 : decode cX11_way 26 = .ok (.getfield 30, 3) := o_180 (u1_10 hc_X11_way_16 rfl) (u2_d (u1_11 hc_X11_way_16 rfl) (u1_12 hc_X11_way_16 rfl) rfl) rfl
theorem dX11_way_29 : decode cX11_way 29 = .ok (.getfield 239, 3) := o_180 (u1_13 hc_X11_way_16 rfl) (u2_d (u1_14 hc_X11_way_16 rfl) (u1_15 hc_X11_way_16 rfl) rfl) rfl
theorem hc_X11_way_32 : ((bL cX11_way).drop 32).take 18 = [28, 46, 172] := by decide +kernel
theorem dX11_way_32 : decode cX11_way 32 = .ok (.iload_n 2, 1) := o_28 (u1_0 hc_X11_way_32 rfl) rfl
theorem dX11_way_33 : decode cX11_way 33 = .ok (.iaload, 1) := o_46 (u1_1 hc_X11_way_32 rfl) rfl
theorem dX11_way_34 : decode cX11_way 34 = .ok (.ireturn, 1) := o_172 (u1_2 hc_X11_way_32 rfl) rfl
theorem hc_X11_toward_0 : ((bL cX11_toward).drop 0).take 18 = [42, 27, 28, 182, 0, 232, 54, 4, 21, 4, 153, 0, 6, 21, 4, 172, 42, 180] := by decide +kernel
theorem dX11_toward_0 : decode cX11_toward 0 = .ok (.aload_n 0, 1) := o_42 (u1_0 hc_X11_toward_0 rfl) rfl
theorem dX11_toward_1 : decode cX11_toward 1 = .ok (.iload_n 1, 1) := o_27 (u1_1 hc_X11_toward_0 rfl) rfl
theorem dX11_toward_2 : decode cX11_toward 2 = .ok (.iload_n 2, 1) := o_28 (u1_2 hc_X11_toward_0 rfl) rfl
theorem dX11_toward_3 : decode cX11_toward 3 = .ok (.invokevirtual 232, 3) := o_182 (u1_3 hc_X11_toward_0 rfl) (u2_d (u1_4 hc_X11_toward_0 rfl) (u1_5 hc_X11_toward_0 rfl) rfl) rfl
theorem dX11_toward_6 : decode cX11_toward 6 = .ok (.istore 4, 2) := o_54 (u1_6 hc_X11_toward_0 rfl) (u1_7 hc_X11_toward_0 rfl) rfl
theorem dX11_toward_8 : decode cX11_toward 8 = .ok (.iload 4, 2) := o_21 (u1_8 hc_X11_toward_0 rfl) (u1_9 hc_X11_toward_0 rfl) rfl
