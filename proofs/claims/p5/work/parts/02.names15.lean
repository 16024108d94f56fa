theorem dX12_isState_58 : decode cX12_isState 58 = .ok (.iload_n 2, 1) := by decide +kernel
theorem dX12_isState_59 : decode cX12_isState 59 = .ok (.iadd, 1) := by decide +kernel
theorem dX12_isState_60 : decode cX12_isState 60 = .ok (.baload, 1) := by decide +kernel
theorem dX12_isState_61 : decode cX12_isState 61 = .ok (.aload_n 0, 1) := by decide +kernel
theorem dX12_isState_62 : decode cX12_isState 62 = .ok (.getfield 56, 3) := by decide +kernel
theorem dX12_isState_65 : decode cX12_isState 65 = .ok (.iload_n 2, 1) := by decide +kernel
theorem dX12_isState_66 : decode cX12_isState 66 = .ok (.baload, 1) := by decide +kernel
theorem dX12_isState_67 : decode cX12_isState 67 = .ok (.ifCond .eq 7, 3) := by decide +kernel
theorem dX12_isState_70 : decode cX12_isState 70 = .ok (.iconst 1, 1) := by decide +kernel
theorem dX12_isState_71 : decode cX12_isState 71 = .ok (.goto 4, 3) := by decide +kernel
theorem dX12_isState_74 : decode cX12_isState 74 = .ok (.iconst 0, 1) := by decide +kernel
theorem dX12_isState_75 : decode cX12_isState 75 = .ok (.aload_n 0, 1) := by decide +kernel
theorem dX12_isState_76 : decode cX12_isState 76 = .ok (.getfield 59, 3) := by decide +kernel
theorem dX12_isState_79 : decode cX12_isState 79 = .ok (.iload_n 2, 1) := by decide +kernel
theorem dX12_isState_80 : decode cX12_isState 80 = .ok (.baload, 1) := by decide +kernel
theorem dX12_isState_81 : decode cX12_isState 81 = .ok (.ifCond .eq 7, 3) := by decide +kernel
theorem dX12_isState_84 : decode cX12_isState 84 = .ok (.iconst 2, 1) := by decide +kernel
theorem dX12_isState_85 : decode cX12_isState 85 = .ok (.goto 4, 3) := by decide +kernel
theorem dX12_isState_88 : decode cX12_isState 88 = .ok (.iconst 0, 1) := by decide +kernel
theorem dX12_isState_89 : decode cX12_isState 89 = .ok (.iadd, 1) := by decide +kernel
theorem dX12_isState_90 : decode cX12_isState 90 = .ok (.if_icmp .eq 5, 3) := by decide +kernel
theorem dX12_isState_93 : decode cX12_isState 93 = .ok (.iconst 0, 1) := by decide +kernel
theorem dX12_isState_94 : decode cX12_isState 94 = .ok (.ireturn, 1) := by decide +kernel
theorem dX12_isState_95 : decode cX12_isState 95 = .ok (.iinc 2 1, 3) := by decide +kernel
theorem dX12_isState_98 : decode cX12_isState 98 = .ok (.goto (-96), 3) := by decide +kernel
theorem dX12_isState_101 : decode cX12_isState 101 = .ok (.iconst 1, 1) := by decide +kernel
theorem dX12_isState_102 : decode cX12_isState 102 = .ok (.ireturn, 1) := by decide +kernel
theorem dX12_tried_0 : decode cX12_tried 0 = .ok (.aload_n 0, 1) := by decide +kernel
theorem dX12_tried_1 : decode cX12_tried 1 = .ok (.iload_n 2, 1) := by decide +kernel
theorem dX12_tried_2 : decode cX12_tried 2 = .ok (.iload_n 3, 1) := by decide +kernel
theorem dX12_tried_3 : decode cX12_tried 3 = .ok (.iload 4, 2) := by decide +kernel
theorem dX12_tried_5 : decode cX12_tried 5 = .ok (.invokevirtual 398, 3) := by decide +kernel
theorem dX12_tried_8 : decode cX12_tried 8 = .ok (.ifCond .le 5, 3) := by decide +kernel
theorem dX12_tried_11 : decode cX12_tried 11 = .ok (.iconst 0, 1) := by decide +kernel
theorem dX12_tried_12 : decode cX12_tried 12 = .ok (.ireturn, 1) := by decide +kernel
theorem dX12_tried_13 : decode cX12_tried 13 = .ok (.aload_n 0, 1) := by decide +kernel
theorem dX12_tried_14 : decode cX12_tried 14 = .ok (.iload_n 2, 1) := by decide +kernel
theorem dX12_tried_15 : decode cX12_tried 15 = .ok (.iload_n 3, 1) := by decide +kernel
theorem dX12_tried_16 : decode cX12_tried 16 = .ok (.iload 4, 2) := by decide +kernel
theorem dX12_tried_18 : decode cX12_tried 18 = .ok (.invokevirtual 401, 3) := by decide +kernel
theorem dX12_tried_21 : decode cX12_tried 21 = .ok (.iconst 1, 1) := by decide +kernel
theorem dX12_tried_22 : decode cX12_tried 22 = .ok (.istore 5, 2) := by decide +kernel
theorem dX12_tried_24 : decode cX12_tried 24 = .ok (.iconst 0, 1) := by decide +kernel
theorem dX12_tried_25 : decode cX12_tried 25 = .ok (.istore 6, 2) := by decide +kernel
theorem dX12_tried_27 : decode cX12_tried 27 = .ok (.iload 6, 2) := by decide +kernel
theorem dX12_tried_29 : decode cX12_tried 29 = .ok (.aload_n 0, 1) := by decide +kernel
theorem dX12_tried_30 : decode cX12_tried 30 = .ok (.getfield 410, 3) := by decide +kernel
theorem dX12_tried_33 : decode cX12_tried 33 = .ok (.if_icmp .ge 30, 3) := by decide +kernel
theorem dX12_tried_36 : decode cX12_tried 36 = .ok (.iload 5, 2) := by decide +kernel
theorem dX12_tried_38 : decode cX12_tried 38 = .ok (.ifCond .eq 25, 3) := by decide +kernel
theorem dX12_tried_41 : decode cX12_tried 41 = .ok (.aload_n 0, 1) := by decide +kernel
theorem dX12_tried_42 : decode cX12_tried 42 = .ok (.iload 6, 2) := by decide +kernel
theorem dX12_tried_44 : decode cX12_tried 44 = .ok (.invokevirtual 413, 3) := by decide +kernel
theorem dX12_tried_47 : decode cX12_tried 47 = .ok (.ifCond .ne 7, 3) := by decide +kernel
theorem dX12_tried_50 : decode cX12_tried 50 = .ok (.iconst 1, 1) := by decide +kernel
theorem dX12_tried_51 : decode cX12_tried 51 = .ok (.goto 4, 3) := by decide +kernel
theorem dX12_tried_54 : decode cX12_tried 54 = .ok (.iconst 0, 1) := by decide +kernel
theorem dX12_tried_55 : decode cX12_tried 55 = .ok (.istore 5, 2) := by decide +kernel
theorem dX12_tried_57 : decode cX12_tried 57 = .ok (.iinc 6 1, 3) := by decide +kernel
theorem dX12_tried_60 : decode cX12_tried 60 = .ok (.goto (-33), 3) := by decide +kernel
theorem dX12_tried_63 : decode cX12_tried 63 = .ok (.iconst 0, 1) := by decide +kernel
theorem dX12_tried_64 : decode cX12_tried 64 = .ok (.istore 6, 2) := by decide +kernel
theorem dX12_tried_66 : decode cX12_tried 66 = .ok (.iload 5, 2) := by decide +kernel
theorem dX12_tried_68 : decode cX12_tried 68 = .ok (.ifCond .eq 130, 3) := by decide +kernel
theorem dX12_tried_71 : decode cX12_tried 71 = .ok (.aload_n 0, 1) := by decide +kernel
theorem dX12_tried_72 : decode cX12_tried 72 = .ok (.aload_n 0, 1) := by decide +kernel
theorem dX12_tried_73 : decode cX12_tried 73 = .ok (.getfield 410, 3) := by decide +kernel
theorem dX12_tried_76 : decode cX12_tried 76 = .ok (.invokevirtual 416, 3) := by decide +kernel
theorem dX12_tried_79 : decode cX12_tried 79 = .ok (.aload_n 0, 1) := by decide +kernel
theorem dX12_tried_80 : decode cX12_tried 80 = .ok (.getfield 117, 3) := by decide +kernel
theorem dX12_tried_83 : decode cX12_tried 83 = .ok (.aload_n 0, 1) := by decide +kernel
theorem dX12_tried_84 : decode cX12_tried 84 = .ok (.getfield 410, 3) := by decide +kernel
theorem dX12_tried_87 : decode cX12_tried 87 = .ok (.iload_n 1, 1) := by decide +kernel
theorem dX12_tried_88 : decode cX12_tried 88 = .ok (.iastore, 1) := by decide +kernel
theorem dX12_tried_89 : decode cX12_tried 89 = .ok (.aload_n 0, 1) := by decide +kernel
theorem dX12_tried_90 : decode cX12_tried 90 = .ok (.getfield 120, 3) := by decide +kernel
theorem dX12_tried_93 : decode cX12_tried 93 = .ok (.iconst 3, 1) := by decide +kernel
theorem dX12_tried_94 : decode cX12_tried 94 = .ok (.aload_n 0, 1) := by decide +kernel
theorem dX12_tried_95 : decode cX12_tried 95 = .ok (.getfield 410, 3) := by decide +kernel
theorem dX12_tried_98 : decode cX12_tried 98 = .ok (.imul, 1) := by decide +kernel
theorem dX12_tried_99 : decode cX12_tried 99 = .ok (.iload_n 2, 1) := by decide +kernel
theorem dX12_tried_100 : decode cX12_tried 100 = .ok (.iastore, 1) := by decide +kernel
theorem dX12_tried_101 : decode cX12_tried 101 = .ok (.aload_n 0, 1) := by decide +kernel
theorem dX12_tried_102 : decode cX12_tried 102 = .ok (.getfield 120, 3) := by decide +kernel
theorem dX12_tried_105 : decode cX12_tried 105 = .ok (.iconst 3, 1) := by decide +kernel
theorem dX12_tried_106 : decode cX12_tried 106 = .ok (.aload_n 0, 1) := by decide +kernel
theorem dX12_tried_107 : decode cX12_tried 107 = .ok (.getfield 410, 3) := by decide +kernel
theorem dX12_tried_110 : decode cX12_tried 110 = .ok (.imul, 1) := by decide +kernel
theorem dX12_tried_111 : decode cX12_tried 111 = .ok (.iconst 1, 1) := by decide +kernel
theorem dX12_tried_112 : decode cX12_tried 112 = .ok (.iadd, 1) := by decide +kernel
theorem dX12_tried_113 : decode cX12_tried 113 = .ok (.iload_n 2, 1) := by decide +kernel
theorem dX12_tried_114 : decode cX12_tried 114 = .ok (.bipush 11, 2) := by decide +kernel
theorem dX12_tried_116 : decode cX12_tried 116 = .ok (.if_icmp .ge 7, 3) := by decide +kernel
theorem dX12_tried_119 : decode cX12_tried 119 = .ok (.iload_n 3, 1) := by decide +kernel
theorem dX12_tried_120 : decode cX12_tried 120 = .ok (.goto 4, 3) := by decide +kernel
theorem dX12_tried_123 : decode cX12_tried 123 = .ok (.iconst 0, 1) := by decide +kernel
theorem dX12_tried_124 : decode cX12_tried 124 = .ok (.iastore, 1) := by decide +kernel
theorem dX12_tried_125 : decode cX12_tried 125 = .ok (.aload_n 0, 1) := by decide +kernel
theorem dX12_tried_126 : decode cX12_tried 126 = .ok (.getfield 120, 3) := by decide +kernel
theorem dX12_tried_129 : decode cX12_tried 129 = .ok (.iconst 3, 1) := by decide +kernel
theorem dX12_tried_130 : decode cX12_tried 130 = .ok (.aload_n 0, 1) := by decide +kernel
theorem dX12_tried_131 : decode cX12_tried 131 = .ok (.getfield 410, 3) := by decide +kernel
theorem dX12_tried_134 : decode cX12_tried 134 = .ok (.imul, 1) := by decide +kernel
theorem dX12_tried_135 : decode cX12_tried 135 = .ok (.iconst 2, 1) := by decide +kernel
theorem dX12_tried_136 : decode cX12_tried 136 = .ok (.iadd, 1) := by decide +kernel
theorem dX12_tried_137 : decode cX12_tried 137 = .ok (.iload_n 2, 1) := by decide +kernel
theorem dX12_tried_138 : decode cX12_tried 138 = .ok (.invokestatic 389, 3) := by decide +kernel
theorem dX12_tried_141 : decode cX12_tried 141 = .ok (.ifCond .eq 8, 3) := by decide +kernel
theorem dX12_tried_144 : decode cX12_tried 144 = .ok (.iload 4, 2) := by decide +kernel
theorem dX12_tried_146 : decode cX12_tried 146 = .ok (.goto 4, 3) := by decide +kernel
theorem dX12_tried_149 : decode cX12_tried 149 = .ok (.iconst 0, 1) := by decide +kernel
theorem dX12_tried_150 : decode cX12_tried 150 = .ok (.iastore, 1) := by decide +kernel
theorem dX12_tried_151 : decode cX12_tried 151 = .ok (.aload_n 0, 1) := by decide +kernel
theorem dX12_tried_152 : decode cX12_tried 152 = .ok (.dup, 1) := by decide +kernel
theorem dX12_tried_153 : decode cX12_tried 153 = .ok (.getfield 410, 3) := by decide +kernel
theorem dX12_tried_156 : decode cX12_tried 156 = .ok (.iconst 1, 1) := by decide +kernel
theorem dX12_tried_157 : decode cX12_tried 157 = .ok (.iadd, 1) := by decide +kernel
theorem dX12_tried_158 : decode cX12_tried 158 = .ok (.putfield 410, 3) := by decide +kernel
theorem dX12_tried_161 : decode cX12_tried 161 = .ok (.aload_n 0, 1) := by decide +kernel
theorem dX12_tried_162 : decode cX12_tried 162 = .ok (.getfield 50, 3) := by decide +kernel
theorem dX12_tried_165 : decode cX12_tried 165 = .ok (.aload_n 0, 1) := by decide +kernel
theorem dX12_tried_166 : decode cX12_tried 166 = .ok (.getfield 419, 3) := by decide +kernel
theorem dX12_tried_169 : decode cX12_tried 169 = .ok (.iaload, 1) := by decide +kernel
theorem dX12_tried_170 : decode cX12_tried 170 = .ok (.bipush (-9), 2) := by decide +kernel
theorem dX12_tried_172 : decode cX12_tried 172 = .ok (.if_icmp .eq 23, 3) := by decide +kernel
theorem dX12_tried_175 : decode cX12_tried 175 = .ok (.aload_n 0, 1) := by decide +kernel
theorem dX12_tried_176 : decode cX12_tried 176 = .ok (.getfield 53, 3) := by decide +kernel
theorem dX12_tried_179 : decode cX12_tried 179 = .ok (.aload_n 0, 1) := by decide +kernel
theorem dX12_tried_180 : decode cX12_tried 180 = .ok (.getfield 419, 3) := by decide +kernel
theorem dX12_tried_183 : decode cX12_tried 183 = .ok (.iaload, 1) := by decide +kernel
theorem dX12_tried_184 : decode cX12_tried 184 = .ok (.aload_n 0, 1) := by decide +kernel
theorem dX12_tried_185 : decode cX12_tried 185 = .ok (.getfield 422, 3) := by decide +kernel
theorem dX12_tried_188 : decode cX12_tried 188 = .ok (.if_icmp .ne 7, 3) := by decide +kernel
theorem dX12_tried_191 : decode cX12_tried 191 = .ok (.iconst 1, 1) := by decide +kernel
theorem dX12_tried_192 : decode cX12_tried 192 = .ok (.goto 4, 3) := by decide +kernel
theorem dX12_tried_195 : decode cX12_tried 195 = .ok (.iconst 0, 1) := by decide +kernel
theorem dX12_tried_196 : decode cX12_tried 196 = .ok (.istore 6, 2) := by decide +kernel
theorem dX12_tried_198 : decode cX12_tried 198 = .ok (.aload_n 0, 1) := by decide +kernel
theorem dX12_tried_199 : decode cX12_tried 199 = .ok (.iload_n 1, 1) := by decide +kernel
theorem dX12_tried_200 : decode cX12_tried 200 = .ok (.invokevirtual 425, 3) := by decide +kernel
theorem dX12_tried_203 : decode cX12_tried 203 = .ok (.iload 6, 2) := by decide +kernel
theorem dX12_tried_205 : decode cX12_tried 205 = .ok (.ireturn, 1) := by decide +kernel
theorem dX12_triedAll_0 : decode cX12_triedAll 0 = .ok (.aload_n 0, 1) := by decide +kernel
theorem dX12_triedAll_1 : decode cX12_triedAll 1 = .ok (.iload_n 1, 1) := by decide +kernel
theorem dX12_triedAll_2 : decode cX12_triedAll 2 = .ok (.invokevirtual 425, 3) := by decide +kernel
theorem dX12_triedAll_5 : decode cX12_triedAll 5 = .ok (.aload_n 0, 1) := by decide +kernel
theorem dX12_triedAll_6 : decode cX12_triedAll 6 = .ok (.invokevirtual 395, 3) := by decide +kernel
theorem dX12_triedAll_9 : decode cX12_triedAll 9 = .ok (.iconst 0, 1) := by decide +kernel
theorem dX12_triedAll_10 : decode cX12_triedAll 10 = .ok (.istore_n 2, 1) := by decide +kernel
theorem dX12_triedAll_11 : decode cX12_triedAll 11 = .ok (.iload_n 2, 1) := by decide +kernel
theorem dX12_triedAll_12 : decode cX12_triedAll 12 = .ok (.bipush 12, 2) := by decide +kernel
theorem dX12_triedAll_14 : decode cX12_triedAll 14 = .ok (.if_icmp .ge 106, 3) := by decide +kernel
theorem dX12_triedAll_17 : decode cX12_triedAll 17 = .ok (.iload_n 2, 1) := by decide +kernel
theorem dX12_triedAll_18 : decode cX12_triedAll 18 = .ok (.ifCond .ne 8, 3) := by decide +kernel
theorem dX12_triedAll_21 : decode cX12_triedAll 21 = .ok (.bipush 10, 2) := by decide +kernel
theorem dX12_triedAll_23 : decode cX12_triedAll 23 = .ok (.goto 17, 3) := by decide +kernel
theorem dX12_triedAll_26 : decode cX12_triedAll 26 = .ok (.iload_n 2, 1) := by decide +kernel
theorem dX12_triedAll_27 : decode cX12_triedAll 27 = .ok (.bipush 11, 2) := by decide +kernel
theorem dX12_triedAll_29 : decode cX12_triedAll 29 = .ok (.if_icmp .ne 7, 3) := by decide +kernel
theorem dX12_triedAll_32 : decode cX12_triedAll 32 = .ok (.iconst 1, 1) := by decide +kernel
theorem dX12_triedAll_33 : decode cX12_triedAll 33 = .ok (.goto 7, 3) := by decide +kernel
theorem dX12_triedAll_36 : decode cX12_triedAll 36 = .ok (.aload_n 0, 1) := by decide +kernel
theorem dX12_triedAll_37 : decode cX12_triedAll 37 = .ok (.getfield 177, 3) := by decide +kernel
theorem dX12_triedAll_40 : decode cX12_triedAll 40 = .ok (.istore_n 3, 1) := by decide +kernel
theorem dX12_triedAll_41 : decode cX12_triedAll 41 = .ok (.iconst 0, 1) := by decide +kernel
theorem dX12_triedAll_42 : decode cX12_triedAll 42 = .ok (.istore 4, 2) := by decide +kernel
theorem dX12_triedAll_44 : decode cX12_triedAll 44 = .ok (.iload 4, 2) := by decide +kernel
theorem dX12_triedAll_46 : decode cX12_triedAll 46 = .ok (.iload_n 3, 1) := by decide +kernel
theorem dX12_triedAll_47 : decode cX12_triedAll 47 = .ok (.if_icmp .ge 67, 3) := by decide +kernel
theorem dX12_triedAll_50 : decode cX12_triedAll 50 = .ok (.iload_n 2, 1) := by decide +kernel
theorem dX12_triedAll_51 : decode cX12_triedAll 51 = .ok (.invokestatic 389, 3) := by decide +kernel
theorem dX12_triedAll_54 : decode cX12_triedAll 54 = .ok (.ifCond .eq 10, 3) := by decide +kernel
theorem dX12_triedAll_57 : decode cX12_triedAll 57 = .ok (.aload_n 0, 1) := by decide +kernel
theorem dX12_triedAll_58 : decode cX12_triedAll 58 = .ok (.getfield 177, 3) := by decide +kernel
theorem dX12_triedAll_61 : decode cX12_triedAll 61 = .ok (.goto 4, 3) := by decide +kernel
theorem dX12_triedAll_64 : decode cX12_triedAll 64 = .ok (.iconst 1, 1) := by decide +kernel
theorem dX12_triedAll_65 : decode cX12_triedAll 65 = .ok (.istore 5, 2) := by decide +kernel
theorem dX12_triedAll_67 : decode cX12_triedAll 67 = .ok (.iconst 0, 1) := by decide +kernel
theorem dX12_triedAll_68 : decode cX12_triedAll 68 = .ok (.istore 6, 2) := by decide +kernel
theorem dX12_triedAll_70 : decode cX12_triedAll 70 = .ok (.iload 6, 2) := by decide +kernel
theorem dX12_triedAll_72 : decode cX12_triedAll 72 = .ok (.iload 5, 2) := by decide +kernel
theorem dX12_triedAll_74 : decode cX12_triedAll 74 = .ok (.if_icmp .ge 34, 3) := by decide +kernel
theorem dX12_triedAll_77 : decode cX12_triedAll 77 = .ok (.aload_n 0, 1) := by decide +kernel
theorem dX12_triedAll_78 : decode cX12_triedAll 78 = .ok (.getfield 410, 3) := by decide +kernel
theorem dX12_triedAll_81 : decode cX12_triedAll 81 = .ok (.sipush 300, 3) := by decide +kernel
theorem dX12_triedAll_84 : decode cX12_triedAll 84 = .ok (.if_icmp .ge 24, 3) := by decide +kernel
theorem dX12_triedAll_87 : decode cX12_triedAll 87 = .ok (.aload_n 0, 1) := by decide +kernel
theorem dX12_triedAll_88 : decode cX12_triedAll 88 = .ok (.iload_n 1, 1) := by decide +kernel
theorem dX12_triedAll_89 : decode cX12_triedAll 89 = .ok (.iload_n 2, 1) := by decide +kernel
theorem dX12_triedAll_90 : decode cX12_triedAll 90 = .ok (.iload 4, 2) := by decide +kernel
theorem dX12_triedAll_92 : decode cX12_triedAll 92 = .ok (.iload 6, 2) := by decide +kernel
theorem dX12_triedAll_94 : decode cX12_triedAll 94 = .ok (.invokevirtual 428, 3) := by decide +kernel
theorem dX12_triedAll_97 : decode cX12_triedAll 97 = .ok (.ifCond .eq 5, 3) := by decide +kernel
theorem dX12_triedAll_100 : decode cX12_triedAll 100 = .ok (.iconst 1, 1) := by decide +kernel
theorem dX12_triedAll_101 : decode cX12_triedAll 101 = .ok (.ireturn, 1) := by decide +kernel
theorem dX12_triedAll_102 : decode cX12_triedAll 102 = .ok (.iinc 6 1, 3) := by decide +kernel
theorem dX12_triedAll_105 : decode cX12_triedAll 105 = .ok (.goto (-35), 3) := by decide +kernel
theorem dX12_triedAll_108 : decode cX12_triedAll 108 = .ok (.iinc 4 1, 3) := by decide +kernel
theorem dX12_triedAll_111 : decode cX12_triedAll 111 = .ok (.goto (-67), 3) := by decide +kernel
theorem dX12_triedAll_114 : decode cX12_triedAll 114 = .ok (.iinc 2 1, 3) := by decide +kernel
theorem dX12_triedAll_117 : decode cX12_triedAll 117 = .ok (.goto (-106), 3) := by decide +kernel
theorem dX12_triedAll_120 : decode cX12_triedAll 120 = .ok (.iconst 0, 1) := by decide +kernel
theorem dX12_triedAll_121 : decode cX12_triedAll 121 = .ok (.ireturn, 1) := by decide +kernel
theorem dX12_found_0 : decode cX12_found 0 = .ok (.iconst 0, 1) := by decide +kernel
theorem dX12_found_1 : decode cX12_found 1 = .ok (.istore_n 2, 1) := by decide +kernel
theorem dX12_found_2 : decode cX12_found 2 = .ok (.iload_n 1, 1) := by decide +kernel
theorem dX12_found_3 : decode cX12_found 3 = .ok (.istore_n 3, 1) := by decide +kernel
theorem dX12_found_4 : decode cX12_found 4 = .ok (.iload_n 3, 1) := by decide +kernel
theorem dX12_found_5 : decode cX12_found 5 = .ok (.ifCond .le 16, 3) := by decide +kernel
theorem dX12_found_8 : decode cX12_found 8 = .ok (.iinc 2 1, 3) := by decide +kernel
theorem dX12_found_11 : decode cX12_found 11 = .ok (.aload_n 0, 1) := by decide +kernel
theorem dX12_found_12 : decode cX12_found 12 = .ok (.getfield 117, 3) := by decide +kernel
theorem dX12_found_15 : decode cX12_found 15 = .ok (.iload_n 3, 1) := by decide +kernel
theorem dX12_found_16 : decode cX12_found 16 = .ok (.iaload, 1) := by decide +kernel
theorem dX12_found_17 : decode cX12_found 17 = .ok (.istore_n 3, 1) := by decide +kernel
theorem dX12_found_18 : decode cX12_found 18 = .ok (.goto (-14), 3) := by decide +kernel
theorem dX12_found_21 : decode cX12_found 21 = .ok (.aload_n 0, 1) := by decide +kernel
theorem dX12_found_22 : decode cX12_found 22 = .ok (.iload_n 2, 1) := by decide +kernel
theorem dX12_found_23 : decode cX12_found 23 = .ok (.putfield 158, 3) := by decide +kernel
theorem dX12_found_26 : decode cX12_found 26 = .ok (.iload_n 2, 1) := by decide +kernel
theorem dX12_found_27 : decode cX12_found 27 = .ok (.istore_n 3, 1) := by decide +kernel
theorem dX12_found_28 : decode cX12_found 28 = .ok (.iload_n 1, 1) := by decide +kernel
theorem dX12_found_29 : decode cX12_found 29 = .ok (.istore 4, 2) := by decide +kernel
theorem dX12_found_31 : decode cX12_found 31 = .ok (.iload 4, 2) := by decide +kernel
theorem dX12_found_33 : decode cX12_found 33 = .ok (.ifCond .le 56, 3) := by decide +kernel
theorem dX12_found_36 : decode cX12_found 36 = .ok (.iinc 3 (-1), 3) := by decide +kernel
theorem dX12_found_39 : decode cX12_found 39 = .ok (.iconst 0, 1) := by decide +kernel
theorem dX12_found_40 : decode cX12_found 40 = .ok (.istore 5, 2) := by decide +kernel
theorem dX12_found_42 : decode cX12_found 42 = .ok (.iload 5, 2) := by decide +kernel
theorem dX12_found_44 : decode cX12_found 44 = .ok (.iconst 3, 1) := by decide +kernel
theorem dX12_found_45 : decode cX12_found 45 = .ok (.if_icmp .ge 32, 3) := by decide +kernel
theorem dX12_found_48 : decode cX12_found 48 = .ok (.aload_n 0, 1) := by decide +kernel
theorem dX12_found_49 : decode cX12_found 49 = .ok (.getfield 123, 3) := by decide +kernel
theorem dX12_found_52 : decode cX12_found 52 = .ok (.iconst 3, 1) := by decide +kernel
theorem dX12_found_53 : decode cX12_found 53 = .ok (.iload_n 3, 1) := by decide +kernel
theorem dX12_found_54 : decode cX12_found 54 = .ok (.imul, 1) := by decide +kernel
theorem dX12_found_55 : decode cX12_found 55 = .ok (.iload 5, 2) := by decide +kernel
theorem dX12_found_57 : decode cX12_found 57 = .ok (.iadd, 1) := by decide +kernel
theorem dX12_found_58 : decode cX12_found 58 = .ok (.aload_n 0, 1) := by decide +kernel
theorem dX12_found_59 : decode cX12_found 59 = .ok (.getfield 120, 3) := by decide +kernel
theorem dX12_found_62 : decode cX12_found 62 = .ok (.iconst 3, 1) := by decide +kernel
theorem dX12_found_63 : decode cX12_found 63 = .ok (.iload 4, 2) := by decide +kernel
theorem dX12_found_65 : decode cX12_found 65 = .ok (.imul, 1) := by decide +kernel
theorem dX12_found_66 : decode cX12_found 66 = .ok (.iload 5, 2) := by decide +kernel
theorem dX12_found_68 : decode cX12_found 68 = .ok (.iadd, 1) := by decide +kernel
theorem dX12_found_69 : decode cX12_found 69 = .ok (.iaload, 1) := by decide +kernel
theorem dX12_found_70 : decode cX12_found 70 = .ok (.iastore, 1) := by decide +kernel
theorem dX12_found_71 : decode cX12_found 71 = .ok (.iinc 5 1, 3) := by decide +kernel
theorem dX12_found_74 : decode cX12_found 74 = .ok (.goto (-32), 3) := by decide +kernel
theorem dX12_found_77 : decode cX12_found 77 = .ok (.aload_n 0, 1) := by decide +kernel
theorem dX12_found_78 : decode cX12_found 78 = .ok (.getfield 117, 3) := by decide +kernel
theorem dX12_found_81 : decode cX12_found 81 = .ok (.iload 4, 2) := by decide +kernel
theorem dX12_found_83 : decode cX12_found 83 = .ok (.iaload, 1) := by decide +kernel
theorem dX12_found_84 : decode cX12_found 84 = .ok (.istore 4, 2) := by decide +kernel
theorem dX12_found_86 : decode cX12_found 86 = .ok (.goto (-55), 3) := by decide +kernel
theorem dX12_found_89 : decode cX12_found 89 = .ok (.iload_n 2, 1) := by decide +kernel
theorem dX12_found_90 : decode cX12_found 90 = .ok (.ireturn, 1) := by decide +kernel
theorem dX12_seek_0 : decode cX12_seek 0 = .ok (.aload_n 0, 1) := by decide +kernel
theorem dX12_seek_1 : decode cX12_seek 1 = .ok (.iload_n 1, 1) := by decide +kernel
theorem dX12_seek_2 : decode cX12_seek 2 = .ok (.invokevirtual 180, 3) := by decide +kernel
theorem dX12_seek_5 : decode cX12_seek 5 = .ok (.ifCond .eq 23, 3) := by decide +kernel
theorem dX12_seek_8 : decode cX12_seek 8 = .ok (.aload_n 0, 1) := by decide +kernel
theorem dX12_seek_9 : decode cX12_seek 9 = .ok (.iload_n 2, 1) := by decide +kernel
theorem dX12_seek_10 : decode cX12_seek 10 = .ok (.invokevirtual 180, 3) := by decide +kernel
theorem dX12_seek_13 : decode cX12_seek 13 = .ok (.ifCond .eq 15, 3) := by decide +kernel
theorem dX12_seek_16 : decode cX12_seek 16 = .ok (.iload_n 3, 1) := by decide +kernel
theorem dX12_seek_17 : decode cX12_seek 17 = .ok (.i2l, 1) := by decide +kernel
theorem dX12_seek_18 : decode cX12_seek 18 = .ok (.lconst 0, 1) := by decide +kernel
theorem dX12_seek_19 : decode cX12_seek 19 = .ok (.ldc2_w 431, 3) := by decide +kernel
theorem dX12_seek_22 : decode cX12_seek 22 = .ok (.invokestatic 166, 3) := by decide +kernel
theorem dX12_seek_25 : decode cX12_seek 25 = .ok (.ifCond .ne 5, 3) := by decide +kernel
theorem dX12_seek_28 : decode cX12_seek 28 = .ok (.iconst (-1), 1) := by decide +kernel
theorem dX12_seek_29 : decode cX12_seek 29 = .ok (.ireturn, 1) := by decide +kernel
theorem dX12_seek_30 : decode cX12_seek 30 = .ok (.aload_n 0, 1) := by decide +kernel
theorem dX12_seek_31 : decode cX12_seek 31 = .ok (.getfield 155, 3) := by decide +kernel
theorem dX12_seek_34 : decode cX12_seek 34 = .ok (.bipush (-9), 2) := by decide +kernel
theorem dX12_seek_36 : decode cX12_seek 36 = .ok (.if_icmp .ne 6, 3) := by decide +kernel
theorem dX12_seek_39 : decode cX12_seek 39 = .ok (.bipush (-5), 2) := by decide +kernel
theorem dX12_seek_41 : decode cX12_seek 41 = .ok (.ireturn, 1) := by decide +kernel
theorem dX12_seek_42 : decode cX12_seek 42 = .ok (.aload_n 0, 1) := by decide +kernel
theorem dX12_seek_43 : decode cX12_seek 43 = .ok (.invokevirtual 392, 3) := by decide +kernel
theorem dX12_seek_46 : decode cX12_seek 46 = .ok (.aload_n 0, 1) := by decide +kernel
theorem dX12_seek_47 : decode cX12_seek 47 = .ok (.iload_n 1, 1) := by decide +kernel
theorem dX12_seek_48 : decode cX12_seek 48 = .ok (.putfield 419, 3) := by decide +kernel
theorem dX12_seek_51 : decode cX12_seek 51 = .ok (.aload_n 0, 1) := by decide +kernel
theorem dX12_seek_52 : decode cX12_seek 52 = .ok (.iload_n 2, 1) := by decide +kernel
theorem dX12_seek_53 : decode cX12_seek 53 = .ok (.putfield 422, 3) := by decide +kernel
theorem dX12_seek_56 : decode cX12_seek 56 = .ok (.aload_n 0, 1) := by decide +kernel
theorem dX12_seek_57 : decode cX12_seek 57 = .ok (.bipush (-9), 2) := by decide +kernel
theorem dX12_seek_59 : decode cX12_seek 59 = .ok (.putfield 158, 3) := by decide +kernel
theorem dX12_seek_62 : decode cX12_seek 62 = .ok (.aload_n 0, 1) := by decide +kernel
theorem dX12_seek_63 : decode cX12_seek 63 = .ok (.sipush 300, 3) := by decide +kernel
theorem dX12_seek_66 : decode cX12_seek 66 = .ok (.invokevirtual 416, 3) := by decide +kernel
theorem dX12_seek_69 : decode cX12_seek 69 = .ok (.aload_n 0, 1) := by decide +kernel
theorem dX12_seek_70 : decode cX12_seek 70 = .ok (.iconst 0, 1) := by decide +kernel
theorem dX12_seek_71 : decode cX12_seek 71 = .ok (.invokevirtual 416, 3) := by decide +kernel
theorem dX12_seek_74 : decode cX12_seek 74 = .ok (.aload_n 0, 1) := by decide +kernel
theorem dX12_seek_75 : decode cX12_seek 75 = .ok (.getfield 117, 3) := by decide +kernel
theorem dX12_seek_78 : decode cX12_seek 78 = .ok (.iconst 0, 1) := by decide +kernel
theorem dX12_seek_79 : decode cX12_seek 79 = .ok (.bipush (-9), 2) := by decide +kernel
theorem dX12_seek_81 : decode cX12_seek 81 = .ok (.iastore, 1) := by decide +kernel
theorem dX12_seek_82 : decode cX12_seek 82 = .ok (.aload_n 0, 1) := by decide +kernel
theorem dX12_seek_83 : decode cX12_seek 83 = .ok (.iconst 1, 1) := by decide +kernel
theorem dX12_seek_84 : decode cX12_seek 84 = .ok (.putfield 410, 3) := by decide +kernel
theorem dX12_seek_87 : decode cX12_seek 87 = .ok (.bipush (-9), 2) := by decide +kernel
theorem dX12_seek_89 : decode cX12_seek 89 = .ok (.istore 4, 2) := by decide +kernel
theorem dX12_seek_91 : decode cX12_seek 91 = .ok (.aload_n 0, 1) := by decide +kernel
theorem dX12_seek_92 : decode cX12_seek 92 = .ok (.getfield 50, 3) := by decide +kernel
theorem dX12_seek_95 : decode cX12_seek 95 = .ok (.iload_n 1, 1) := by decide +kernel
theorem dX12_seek_96 : decode cX12_seek 96 = .ok (.iaload, 1) := by decide +kernel
theorem dX12_seek_97 : decode cX12_seek 97 = .ok (.bipush (-9), 2) := by decide +kernel
theorem dX12_seek_99 : decode cX12_seek 99 = .ok (.if_icmp .eq 20, 3) := by decide +kernel
theorem dX12_seek_102 : decode cX12_seek 102 = .ok (.aload_n 0, 1) := by decide +kernel
theorem dX12_seek_103 : decode cX12_seek 103 = .ok (.getfield 53, 3) := by decide +kernel
theorem dX12_seek_106 : decode cX12_seek 106 = .ok (.iload_n 1, 1) := by decide +kernel
theorem dX12_seek_107 : decode cX12_seek 107 = .ok (.iaload, 1) := by decide +kernel
theorem dX12_seek_108 : decode cX12_seek 108 = .ok (.iload_n 2, 1) := by decide +kernel
theorem dX12_seek_109 : decode cX12_seek 109 = .ok (.if_icmp .ne 10, 3) := by decide +kernel
theorem dX12_seek_112 : decode cX12_seek 112 = .ok (.aload_n 0, 1) := by decide +kernel
theorem dX12_seek_113 : decode cX12_seek 113 = .ok (.iconst 0, 1) := by decide +kernel
theorem dX12_seek_114 : decode cX12_seek 114 = .ok (.invokevirtual 433, 3) := by decide +kernel
theorem dX12_seek_117 : decode cX12_seek 117 = .ok (.istore 4, 2) := by decide +kernel
theorem dX12_seek_119 : decode cX12_seek 119 = .ok (.iconst 0, 1) := by decide +kernel
theorem dX12_seek_120 : decode cX12_seek 120 = .ok (.istore 5, 2) := by decide +kernel
theorem dX12_seek_122 : decode cX12_seek 122 = .ok (.iload 5, 2) := by decide +kernel
theorem dX12_seek_124 : decode cX12_seek 124 = .ok (.iload_n 3, 1) := by decide +kernel
theorem dX12_seek_125 : decode cX12_seek 125 = .ok (.if_icmp .ge 56, 3) := by decide +kernel
theorem dX12_seek_128 : decode cX12_seek 128 = .ok (.iload 5, 2) := by decide +kernel
theorem dX12_seek_130 : decode cX12_seek 130 = .ok (.aload_n 0, 1) := by decide +kernel
theorem dX12_seek_131 : decode cX12_seek 131 = .ok (.getfield 410, 3) := by decide +kernel
theorem dX12_seek_134 : decode cX12_seek 134 = .ok (.if_icmp .ge 47, 3) := by decide +kernel
theorem dX12_seek_137 : decode cX12_seek 137 = .ok (.aload_n 0, 1) := by decide +kernel
theorem dX12_seek_138 : decode cX12_seek 138 = .ok (.getfield 410, 3) := by decide +kernel
theorem dX12_seek_141 : decode cX12_seek 141 = .ok (.sipush 300, 3) := by decide +kernel
theorem dX12_seek_144 : decode cX12_seek 144 = .ok (.if_icmp .ge 37, 3) := by decide +kernel
theorem dX12_seek_147 : decode cX12_seek 147 = .ok (.iload 4, 2) := by decide +kernel
theorem dX12_seek_149 : decode cX12_seek 149 = .ok (.bipush (-9), 2) := by decide +kernel
theorem dX12_seek_151 : decode cX12_seek 151 = .ok (.if_icmp .ne 30, 3) := by decide +kernel
theorem dX12_seek_154 : decode cX12_seek 154 = .ok (.aload_n 0, 1) := by decide +kernel
theorem dX12_seek_155 : decode cX12_seek 155 = .ok (.iload 5, 2) := by decide +kernel
theorem dX12_seek_157 : decode cX12_seek 157 = .ok (.invokevirtual 436, 3) := by decide +kernel
theorem dX12_seek_160 : decode cX12_seek 160 = .ok (.ifCond .eq 15, 3) := by decide +kernel
theorem dX12_seek_163 : decode cX12_seek 163 = .ok (.aload_n 0, 1) := by decide +kernel
theorem dX12_seek_164 : decode cX12_seek 164 = .ok (.aload_n 0, 1) := by decide +kernel
theorem dX12_seek_165 : decode cX12_seek 165 = .ok (.getfield 410, 3) := by decide +kernel
theorem dX12_seek_168 : decode cX12_seek 168 = .ok (.iconst 1, 1) := by decide +kernel
theorem dX12_seek_169 : decode cX12_seek 169 = .ok (.isub, 1) := by decide +kernel
theorem dX12_seek_170 : decode cX12_seek 170 = .ok (.invokevirtual 433, 3) := by decide +kernel
theorem dX12_seek_173 : decode cX12_seek 173 = .ok (.istore 4, 2) := by decide +kernel
theorem dX12_seek_175 : decode cX12_seek 175 = .ok (.iinc 5 1, 3) := by decide +kernel
theorem dX12_seek_178 : decode cX12_seek 178 = .ok (.goto (-56), 3) := by decide +kernel
theorem dX12_seek_181 : decode cX12_seek 181 = .ok (.aload_n 0, 1) := by decide +kernel
theorem dX12_seek_182 : decode cX12_seek 182 = .ok (.sipush 300, 3) := by decide +kernel
theorem dX12_seek_185 : decode cX12_seek 185 = .ok (.invokevirtual 425, 3) := by decide +kernel
theorem dX12_seek_188 : decode cX12_seek 188 = .ok (.iload 4, 2) := by decide +kernel
theorem dX12_seek_190 : decode cX12_seek 190 = .ok (.ireturn, 1) := by decide +kernel
theorem dX12_sought_0 : decode cX12_sought 0 = .ok (.iload_n 2, 1) := by decide +kernel
theorem dX12_sought_1 : decode cX12_sought 1 = .ok (.i2l, 1) := by decide +kernel
theorem dX12_sought_2 : decode cX12_sought 2 = .ok (.lconst 0, 1) := by decide +kernel
theorem dX12_sought_3 : decode cX12_sought 3 = .ok (.ldc2_w 254, 3) := by decide +kernel
theorem dX12_sought_6 : decode cX12_sought 6 = .ok (.invokestatic 166, 3) := by decide +kernel
theorem dX12_sought_9 : decode cX12_sought 9 = .ok (.ifCond .ne 5, 3) := by decide +kernel
theorem dX12_sought_12 : decode cX12_sought 12 = .ok (.iconst (-1), 1) := by decide +kernel
theorem dX12_sought_13 : decode cX12_sought 13 = .ok (.ireturn, 1) := by decide +kernel
theorem dX12_sought_14 : decode cX12_sought 14 = .ok (.iload_n 1, 1) := by decide +kernel
theorem dX12_sought_15 : decode cX12_sought 15 = .ok (.i2l, 1) := by decide +kernel
theorem dX12_sought_16 : decode cX12_sought 16 = .ok (.lconst 0, 1) := by decide +kernel
theorem dX12_sought_17 : decode cX12_sought 17 = .ok (.aload_n 0, 1) := by decide +kernel
theorem dX12_sought_18 : decode cX12_sought 18 = .ok (.getfield 158, 3) := by decide +kernel
theorem dX12_sought_21 : decode cX12_sought 21 = .ok (.iconst 1, 1) := by decide +kernel
theorem dX12_sought_22 : decode cX12_sought 22 = .ok (.isub, 1) := by decide +kernel
theorem dX12_sought_23 : decode cX12_sought 23 = .ok (.i2l, 1) := by decide +kernel
theorem dX12_sought_24 : decode cX12_sought 24 = .ok (.invokestatic 166, 3) := by decide +kernel
theorem dX12_sought_27 : decode cX12_sought 27 = .ok (.ifCond .eq 16, 3) := by decide +kernel
theorem dX12_sought_30 : decode cX12_sought 30 = .ok (.aload_n 0, 1) := by decide +kernel
theorem dX12_sought_31 : decode cX12_sought 31 = .ok (.getfield 123, 3) := by decide +kernel
theorem dX12_sought_34 : decode cX12_sought 34 = .ok (.iconst 3, 1) := by decide +kernel
theorem dX12_sought_35 : decode cX12_sought 35 = .ok (.iload_n 1, 1) := by decide +kernel
theorem dX12_sought_36 : decode cX12_sought 36 = .ok (.imul, 1) := by decide +kernel
theorem dX12_sought_37 : decode cX12_sought 37 = .ok (.iload_n 2, 1) := by decide +kernel
theorem dX12_sought_38 : decode cX12_sought 38 = .ok (.iadd, 1) := by decide +kernel
theorem dX12_sought_39 : decode cX12_sought 39 = .ok (.iaload, 1) := by decide +kernel
theorem dX12_sought_40 : decode cX12_sought 40 = .ok (.goto 5, 3) := by decide +kernel
theorem dX12_sought_43 : decode cX12_sought 43 = .ok (.bipush (-9), 2) := by decide +kernel
theorem dX12_sought_45 : decode cX12_sought 45 = .ok (.ireturn, 1) := by decide +kernel
theorem dX12_line_0 : decode cX12_line 0 = .ok (.aload_n 0, 1) := by decide +kernel
theorem dX12_line_1 : decode cX12_line 1 = .ok (.iload_n 1, 1) := by decide +kernel
theorem dX12_line_2 : decode cX12_line 2 = .ok (.invokevirtual 180, 3) := by decide +kernel
theorem dX12_line_5 : decode cX12_line 5 = .ok (.ifCond .eq 21, 3) := by decide +kernel
theorem dX12_line_8 : decode cX12_line 8 = .ok (.iload_n 2, 1) := by decide +kernel
theorem dX12_line_9 : decode cX12_line 9 = .ok (.i2l, 1) := by decide +kernel
theorem dX12_line_10 : decode cX12_line 10 = .ok (.lconst 0, 1) := by decide +kernel
theorem dX12_line_11 : decode cX12_line 11 = .ok (.ldc2_w 279, 3) := by decide +kernel
theorem dX12_line_14 : decode cX12_line 14 = .ok (.invokestatic 166, 3) := by decide +kernel
theorem dX12_line_17 : decode cX12_line 17 = .ok (.ifCond .eq 9, 3) := by decide +kernel
theorem dX12_line_20 : decode cX12_line 20 = .ok (.iload_n 3, 1) := by decide +kernel
theorem dX12_line_21 : decode cX12_line 21 = .ok (.bipush 12, 2) := by decide +kernel
theorem dX12_line_23 : decode cX12_line 23 = .ok (.if_icmp .le 5, 3) := by decide +kernel
theorem dX12_line_26 : decode cX12_line 26 = .ok (.iconst (-1), 1) := by decide +kernel
theorem dX12_line_27 : decode cX12_line 27 = .ok (.ireturn, 1) := by decide +kernel
theorem dX12_line_28 : decode cX12_line 28 = .ok (.iload_n 3, 1) := by decide +kernel
theorem dX12_line_29 : decode cX12_line 29 = .ok (.ifCond .ge 9, 3) := by decide +kernel
theorem dX12_line_32 : decode cX12_line 32 = .ok (.aload_n 0, 1) := by decide +kernel
theorem dX12_line_33 : decode cX12_line 33 = .ok (.iconst 5, 1) := by decide +kernel
theorem dX12_line_34 : decode cX12_line 34 = .ok (.invokevirtual 233, 3) := by decide +kernel
theorem dX12_line_37 : decode cX12_line 37 = .ok (.ireturn, 1) := by decide +kernel
theorem dX12_line_38 : decode cX12_line 38 = .ok (.aload_n 0, 1) := by decide +kernel
theorem dX12_line_39 : decode cX12_line 39 = .ok (.getfield 136, 3) := by decide +kernel
theorem dX12_line_42 : decode cX12_line 42 = .ok (.iload_n 1, 1) := by decide +kernel
theorem dX12_line_43 : decode cX12_line 43 = .ok (.iconst 1, 1) := by decide +kernel
theorem dX12_line_44 : decode cX12_line 44 = .ok (.bastore, 1) := by decide +kernel
theorem dX12_line_45 : decode cX12_line 45 = .ok (.aload_n 0, 1) := by decide +kernel
theorem dX12_line_46 : decode cX12_line 46 = .ok (.getfield 126, 3) := by decide +kernel
theorem dX12_line_49 : decode cX12_line 49 = .ok (.iload_n 1, 1) := by decide +kernel
theorem dX12_line_50 : decode cX12_line 50 = .ok (.iload_n 2, 1) := by decide +kernel
theorem dX12_line_51 : decode cX12_line 51 = .ok (.iastore, 1) := by decide +kernel
theorem dX12_line_52 : decode cX12_line 52 = .ok (.aload_n 0, 1) := by decide +kernel
theorem dX12_line_53 : decode cX12_line 53 = .ok (.getfield 129, 3) := by decide +kernel
theorem dX12_line_56 : decode cX12_line 56 = .ok (.iload_n 1, 1) := by decide +kernel
theorem dX12_line_57 : decode cX12_line 57 = .ok (.iload_n 3, 1) := by decide +kernel
theorem dX12_line_58 : decode cX12_line 58 = .ok (.iastore, 1) := by decide +kernel
theorem dX12_line_59 : decode cX12_line 59 = .ok (.iconst 0, 1) := by decide +kernel
theorem dX12_line_60 : decode cX12_line 60 = .ok (.istore 4, 2) := by decide +kernel
theorem dX12_line_62 : decode cX12_line 62 = .ok (.iload 4, 2) := by decide +kernel
theorem dX12_line_64 : decode cX12_line 64 = .ok (.bipush 12, 2) := by decide +kernel
theorem dX12_line_66 : decode cX12_line 66 = .ok (.if_icmp .ge 22, 3) := by decide +kernel
theorem dX12_line_69 : decode cX12_line 69 = .ok (.aload_n 0, 1) := by decide +kernel
theorem dX12_line_70 : decode cX12_line 70 = .ok (.getfield 132, 3) := by decide +kernel
theorem dX12_line_73 : decode cX12_line 73 = .ok (.bipush 12, 2) := by decide +kernel
theorem dX12_line_75 : decode cX12_line 75 = .ok (.iload_n 1, 1) := by decide +kernel
theorem dX12_line_76 : decode cX12_line 76 = .ok (.imul, 1) := by decide +kernel
theorem dX12_line_77 : decode cX12_line 77 = .ok (.iload 4, 2) := by decide +kernel
theorem dX12_line_79 : decode cX12_line 79 = .ok (.iadd, 1) := by decide +kernel
theorem dX12_line_80 : decode cX12_line 80 = .ok (.lconst 0, 1) := by decide +kernel
theorem dX12_line_81 : decode cX12_line 81 = .ok (.lastore, 1) := by decide +kernel
theorem dX12_line_82 : decode cX12_line 82 = .ok (.iinc 4 1, 3) := by decide +kernel
theorem dX12_line_85 : decode cX12_line 85 = .ok (.goto (-23), 3) := by decide +kernel
theorem dX12_line_88 : decode cX12_line 88 = .ok (.iload_n 3, 1) := by decide +kernel
theorem dX12_line_89 : decode cX12_line 89 = .ok (.ireturn, 1) := by decide +kernel
theorem dX12_lacks_0 : decode cX12_lacks 0 = .ok (.aload_n 0, 1) := by decide +kernel
theorem dX12_lacks_1 : decode cX12_lacks 1 = .ok (.getfield 136, 3) := by decide +kernel
theorem dX12_lacks_4 : decode cX12_lacks 4 = .ok (.iload_n 1, 1) := by decide +kernel
theorem dX12_lacks_5 : decode cX12_lacks 5 = .ok (.baload, 1) := by decide +kernel
theorem dX12_lacks_6 : decode cX12_lacks 6 = .ok (.ifCond .ne 7, 3) := by decide +kernel
theorem dX12_lacks_9 : decode cX12_lacks 9 = .ok (.iconst 1, 1) := by decide +kernel
theorem dX12_lacks_10 : decode cX12_lacks 10 = .ok (.goto 40, 3) := by decide +kernel
theorem dX12_lacks_13 : decode cX12_lacks 13 = .ok (.aload_n 0, 1) := by decide +kernel
theorem dX12_lacks_14 : decode cX12_lacks 14 = .ok (.getfield 126, 3) := by decide +kernel
theorem dX12_lacks_17 : decode cX12_lacks 17 = .ok (.iload_n 1, 1) := by decide +kernel
theorem dX12_lacks_18 : decode cX12_lacks 18 = .ok (.iaload, 1) := by decide +kernel
theorem dX12_lacks_19 : decode cX12_lacks 19 = .ok (.iload_n 2, 1) := by decide +kernel
theorem dX12_lacks_20 : decode cX12_lacks 20 = .ok (.if_icmp .eq 7, 3) := by decide +kernel
theorem dX12_lacks_23 : decode cX12_lacks 23 = .ok (.iconst 3, 1) := by decide +kernel
theorem dX12_lacks_24 : decode cX12_lacks 24 = .ok (.goto 26, 3) := by decide +kernel
theorem dX12_lacks_27 : decode cX12_lacks 27 = .ok (.iload_n 3, 1) := by decide +kernel
theorem dX12_lacks_28 : decode cX12_lacks 28 = .ok (.i2l, 1) := by decide +kernel
theorem dX12_lacks_29 : decode cX12_lacks 29 = .ok (.lconst 0, 1) := by decide +kernel
theorem dX12_lacks_30 : decode cX12_lacks 30 = .ok (.aload_n 0, 1) := by decide +kernel
theorem dX12_lacks_31 : decode cX12_lacks 31 = .ok (.getfield 129, 3) := by decide +kernel
theorem dX12_lacks_34 : decode cX12_lacks 34 = .ok (.iload_n 1, 1) := by decide +kernel
theorem dX12_lacks_35 : decode cX12_lacks 35 = .ok (.iaload, 1) := by decide +kernel
theorem dX12_lacks_36 : decode cX12_lacks 36 = .ok (.iconst 1, 1) := by decide +kernel
theorem dX12_lacks_37 : decode cX12_lacks 37 = .ok (.isub, 1) := by decide +kernel
theorem dX12_lacks_38 : decode cX12_lacks 38 = .ok (.i2l, 1) := by decide +kernel
theorem dX12_lacks_39 : decode cX12_lacks 39 = .ok (.invokestatic 166, 3) := by decide +kernel
theorem dX12_lacks_42 : decode cX12_lacks 42 = .ok (.ifCond .ne 7, 3) := by decide +kernel
theorem dX12_lacks_45 : decode cX12_lacks 45 = .ok (.iconst 2, 1) := by decide +kernel
theorem dX12_lacks_46 : decode cX12_lacks 46 = .ok (.goto 4, 3) := by decide +kernel
theorem dX12_lacks_49 : decode cX12_lacks 49 = .ok (.iconst 0, 1) := by decide +kernel
theorem dX12_lacks_50 : decode cX12_lacks 50 = .ok (.ireturn, 1) := by decide +kernel
theorem dX12_cut_0 : decode cX12_cut 0 = .ok (.iload_n 0, 1) := by decide +kernel
theorem dX12_cut_1 : decode cX12_cut 1 = .ok (.ifCond .ne 8, 3) := by decide +kernel
theorem dX12_cut_4 : decode cX12_cut 4 = .ok (.lload_n 1, 1) := by decide +kernel
theorem dX12_cut_5 : decode cX12_cut 5 = .ok (.l2i, 1) := by decide +kernel
theorem dX12_cut_6 : decode cX12_cut 6 = .ok (.i2b, 1) := by decide +kernel
theorem dX12_cut_7 : decode cX12_cut 7 = .ok (.i2l, 1) := by decide +kernel
theorem dX12_cut_8 : decode cX12_cut 8 = .ok (.lreturn, 1) := by decide +kernel
theorem dX12_cut_9 : decode cX12_cut 9 = .ok (.iload_n 0, 1) := by decide +kernel
theorem dX12_cut_10 : decode cX12_cut 10 = .ok (.iconst 1, 1) := by decide +kernel
theorem dX12_cut_11 : decode cX12_cut 11 = .ok (.if_icmp .ne 7, 3) := by decide +kernel
theorem dX12_cut_14 : decode cX12_cut 14 = .ok (.lload_n 1, 1) := by decide +kernel
theorem dX12_cut_15 : decode cX12_cut 15 = .ok (.l2i, 1) := by decide +kernel
theorem dX12_cut_16 : decode cX12_cut 16 = .ok (.i2l, 1) := by decide +kernel
theorem dX12_cut_17 : decode cX12_cut 17 = .ok (.lreturn, 1) := by decide +kernel
theorem dX12_cut_18 : decode cX12_cut 18 = .ok (.iload_n 0, 1) := by decide +kernel
theorem dX12_cut_19 : decode cX12_cut 19 = .ok (.iconst 2, 1) := by decide +kernel
theorem dX12_cut_20 : decode cX12_cut 20 = .ok (.if_icmp .ne 26, 3) := by decide +kernel
theorem dX12_cut_23 : decode cX12_cut 23 = .ok (.lload_n 1, 1) := by decide +kernel
theorem dX12_cut_24 : decode cX12_cut 24 = .ok (.l2i, 1) := by decide +kernel
theorem dX12_cut_25 : decode cX12_cut 25 = .ok (.istore_n 3, 1) := by decide +kernel
theorem dX12_cut_26 : decode cX12_cut 26 = .ok (.iload_n 3, 1) := by decide +kernel
theorem dX12_cut_27 : decode cX12_cut 27 = .ok (.ldc_w 439, 3) := by decide +kernel
theorem dX12_cut_30 : decode cX12_cut 30 = .ok (.iand, 1) := by decide +kernel
theorem dX12_cut_31 : decode cX12_cut 31 = .ok (.ldc_w 440, 3) := by decide +kernel
theorem dX12_cut_34 : decode cX12_cut 34 = .ok (.if_icmp .le 9, 3) := by decide +kernel
theorem dX12_cut_37 : decode cX12_cut 37 = .ok (.ldc2_w 441, 3) := by decide +kernel
theorem dX12_cut_40 : decode cX12_cut 40 = .ok (.goto 5, 3) := by decide +kernel
theorem dX12_cut_43 : decode cX12_cut 43 = .ok (.iload_n 3, 1) := by decide +kernel
theorem dX12_cut_44 : decode cX12_cut 44 = .ok (.i2l, 1) := by decide +kernel
theorem dX12_cut_45 : decode cX12_cut 45 = .ok (.lreturn, 1) := by decide +kernel
theorem dX12_cut_46 : decode cX12_cut 46 = .ok (.lload_n 1, 1) := by decide +kernel
theorem dX12_cut_47 : decode cX12_cut 47 = .ok (.lreturn, 1) := by decide +kernel
theorem dX12_put_0 : decode cX12_put 0 = .ok (.aload_n 0, 1) := by decide +kernel
theorem dX12_put_1 : decode cX12_put 1 = .ok (.iload_n 1, 1) := by decide +kernel
theorem dX12_put_2 : decode cX12_put 2 = .ok (.invokevirtual 180, 3) := by decide +kernel
theorem dX12_put_5 : decode cX12_put 5 = .ok (.ifCond .eq 15, 3) := by decide +kernel
theorem dX12_put_8 : decode cX12_put 8 = .ok (.iload_n 2, 1) := by decide +kernel
theorem dX12_put_9 : decode cX12_put 9 = .ok (.i2l, 1) := by decide +kernel
theorem dX12_put_10 : decode cX12_put 10 = .ok (.lconst 0, 1) := by decide +kernel
theorem dX12_put_11 : decode cX12_put 11 = .ok (.ldc2_w 279, 3) := by decide +kernel
theorem dX12_put_14 : decode cX12_put 14 = .ok (.invokestatic 166, 3) := by decide +kernel
theorem dX12_put_17 : decode cX12_put 17 = .ok (.ifCond .ne 5, 3) := by decide +kernel
theorem dX12_put_20 : decode cX12_put 20 = .ok (.iconst (-1), 1) := by decide +kernel
theorem dX12_put_21 : decode cX12_put 21 = .ok (.ireturn, 1) := by decide +kernel
theorem dX12_put_22 : decode cX12_put 22 = .ok (.aload_n 0, 1) := by decide +kernel
theorem dX12_put_23 : decode cX12_put 23 = .ok (.iload_n 1, 1) := by decide +kernel
theorem dX12_put_24 : decode cX12_put 24 = .ok (.iload_n 2, 1) := by decide +kernel
theorem dX12_put_25 : decode cX12_put 25 = .ok (.iload_n 3, 1) := by decide +kernel
theorem dX12_put_26 : decode cX12_put 26 = .ok (.invokevirtual 443, 3) := by decide +kernel
theorem dX12_put_29 : decode cX12_put 29 = .ok (.istore 6, 2) := by decide +kernel
theorem dX12_put_31 : decode cX12_put 31 = .ok (.iload 6, 2) := by decide +kernel
theorem dX12_put_33 : decode cX12_put 33 = .ok (.ifCond .le 10, 3) := by decide +kernel
theorem dX12_put_36 : decode cX12_put 36 = .ok (.aload_n 0, 1) := by decide +kernel
theorem dX12_put_37 : decode cX12_put 37 = .ok (.iload 6, 2) := by decide +kernel
theorem dX12_put_39 : decode cX12_put 39 = .ok (.invokevirtual 233, 3) := by decide +kernel
theorem dX12_put_42 : decode cX12_put 42 = .ok (.ireturn, 1) := by decide +kernel
theorem dX12_put_43 : decode cX12_put 43 = .ok (.aload_n 0, 1) := by decide +kernel
theorem dX12_put_44 : decode cX12_put 44 = .ok (.getfield 132, 3) := by decide +kernel
theorem dX12_put_47 : decode cX12_put 47 = .ok (.bipush 12, 2) := by decide +kernel
theorem dX12_put_49 : decode cX12_put 49 = .ok (.iload_n 1, 1) := by decide +kernel
theorem dX12_put_50 : decode cX12_put 50 = .ok (.imul, 1) := by decide +kernel
theorem dX12_put_51 : decode cX12_put 51 = .ok (.iload_n 3, 1) := by decide +kernel
theorem dX12_put_52 : decode cX12_put 52 = .ok (.iadd, 1) := by decide +kernel
theorem dX12_put_53 : decode cX12_put 53 = .ok (.iload_n 2, 1) := by decide +kernel
theorem dX12_put_54 : decode cX12_put 54 = .ok (.lload 4, 2) := by decide +kernel
theorem dX12_put_56 : decode cX12_put 56 = .ok (.invokestatic 446, 3) := by decide +kernel
theorem dX12_put_59 : decode cX12_put 59 = .ok (.lastore, 1) := by decide +kernel
theorem dX12_put_60 : decode cX12_put 60 = .ok (.iconst 1, 1) := by decide +kernel
theorem dX12_put_61 : decode cX12_put 61 = .ok (.ireturn, 1) := by decide +kernel
theorem dX12_item_0 : decode cX12_item 0 = .ok (.aload_n 0, 1) := by decide +kernel
theorem dX12_item_1 : decode cX12_item 1 = .ok (.iload_n 1, 1) := by decide +kernel
theorem dX12_item_2 : decode cX12_item 2 = .ok (.invokevirtual 180, 3) := by decide +kernel
theorem dX12_item_5 : decode cX12_item 5 = .ok (.ifCond .eq 15, 3) := by decide +kernel
theorem dX12_item_8 : decode cX12_item 8 = .ok (.iload_n 2, 1) := by decide +kernel
theorem dX12_item_9 : decode cX12_item 9 = .ok (.i2l, 1) := by decide +kernel
theorem dX12_item_10 : decode cX12_item 10 = .ok (.lconst 0, 1) := by decide +kernel
theorem dX12_item_11 : decode cX12_item 11 = .ok (.ldc2_w 279, 3) := by decide +kernel
theorem dX12_item_14 : decode cX12_item 14 = .ok (.invokestatic 166, 3) := by decide +kernel
theorem dX12_item_17 : decode cX12_item 17 = .ok (.ifCond .ne 5, 3) := by decide +kernel
theorem dX12_item_20 : decode cX12_item 20 = .ok (.iconst (-1), 1) := by decide +kernel
theorem dX12_item_21 : decode cX12_item 21 = .ok (.ireturn, 1) := by decide +kernel
theorem dX12_item_22 : decode cX12_item 22 = .ok (.aload_n 0, 1) := by decide +kernel
theorem dX12_item_23 : decode cX12_item 23 = .ok (.iload_n 1, 1) := by decide +kernel
theorem dX12_item_24 : decode cX12_item 24 = .ok (.iload_n 2, 1) := by decide +kernel
theorem dX12_item_25 : decode cX12_item 25 = .ok (.iload_n 3, 1) := by decide +kernel
theorem dX12_item_26 : decode cX12_item 26 = .ok (.invokevirtual 443, 3) := by decide +kernel
theorem dX12_item_29 : decode cX12_item 29 = .ok (.istore 4, 2) := by decide +kernel
theorem dX12_item_31 : decode cX12_item 31 = .ok (.iload 4, 2) := by decide +kernel
theorem dX12_item_33 : decode cX12_item 33 = .ok (.ifCond .le 10, 3) := by decide +kernel
theorem dX12_item_36 : decode cX12_item 36 = .ok (.aload_n 0, 1) := by decide +kernel
theorem dX12_item_37 : decode cX12_item 37 = .ok (.iload 4, 2) := by decide +kernel
theorem dX12_item_39 : decode cX12_item 39 = .ok (.invokevirtual 233, 3) := by decide +kernel
theorem dX12_item_42 : decode cX12_item 42 = .ok (.ireturn, 1) := by decide +kernel
theorem dX12_item_43 : decode cX12_item 43 = .ok (.aload_n 0, 1) := by decide +kernel
theorem dX12_item_44 : decode cX12_item 44 = .ok (.aload_n 0, 1) := by decide +kernel
theorem dX12_item_45 : decode cX12_item 45 = .ok (.getfield 132, 3) := by decide +kernel
theorem dX12_item_48 : decode cX12_item 48 = .ok (.bipush 12, 2) := by decide +kernel
theorem dX12_item_50 : decode cX12_item 50 = .ok (.iload_n 1, 1) := by decide +kernel
theorem dX12_item_51 : decode cX12_item 51 = .ok (.imul, 1) := by decide +kernel
theorem dX12_item_52 : decode cX12_item 52 = .ok (.iload_n 3, 1) := by decide +kernel
theorem dX12_item_53 : decode cX12_item 53 = .ok (.iadd, 1) := by decide +kernel
theorem dX12_item_54 : decode cX12_item 54 = .ok (.laload, 1) := by decide +kernel
theorem dX12_item_55 : decode cX12_item 55 = .ok (.putfield 318, 3) := by decide +kernel
theorem dX12_item_58 : decode cX12_item 58 = .ok (.iconst 1, 1) := by decide +kernel
theorem dX12_item_59 : decode cX12_item 59 = .ok (.ireturn, 1) := by decide +kernel
theorem dX12_copy_0 : decode cX12_copy 0 = .ok (.aload_n 0, 1) := by decide +kernel
theorem dX12_copy_1 : decode cX12_copy 1 = .ok (.iload_n 1, 1) := by decide +kernel
theorem dX12_copy_2 : decode cX12_copy 2 = .ok (.invokevirtual 180, 3) := by decide +kernel
theorem dX12_copy_5 : decode cX12_copy 5 = .ok (.ifCond .eq 24, 3) := by decide +kernel
theorem dX12_copy_8 : decode cX12_copy 8 = .ok (.aload_n 0, 1) := by decide +kernel
theorem dX12_copy_9 : decode cX12_copy 9 = .ok (.iload 4, 2) := by decide +kernel
theorem dX12_copy_11 : decode cX12_copy 11 = .ok (.invokevirtual 180, 3) := by decide +kernel
theorem dX12_copy_14 : decode cX12_copy 14 = .ok (.ifCond .eq 15, 3) := by decide +kernel
theorem dX12_copy_17 : decode cX12_copy 17 = .ok (.iload_n 2, 1) := by decide +kernel
theorem dX12_copy_18 : decode cX12_copy 18 = .ok (.i2l, 1) := by decide +kernel
theorem dX12_copy_19 : decode cX12_copy 19 = .ok (.lconst 0, 1) := by decide +kernel
theorem dX12_copy_20 : decode cX12_copy 20 = .ok (.ldc2_w 279, 3) := by decide +kernel
theorem dX12_copy_23 : decode cX12_copy 23 = .ok (.invokestatic 166, 3) := by decide +kernel
theorem dX12_copy_26 : decode cX12_copy 26 = .ok (.ifCond .ne 5, 3) := by decide +kernel
theorem dX12_copy_29 : decode cX12_copy 29 = .ok (.iconst (-1), 1) := by decide +kernel
theorem dX12_copy_30 : decode cX12_copy 30 = .ok (.ireturn, 1) := by decide +kernel
theorem dX12_copy_31 : decode cX12_copy 31 = .ok (.aload_n 0, 1) := by decide +kernel
theorem dX12_copy_32 : decode cX12_copy 32 = .ok (.getfield 136, 3) := by decide +kernel
theorem dX12_copy_35 : decode cX12_copy 35 = .ok (.iload_n 1, 1) := by decide +kernel
theorem dX12_copy_36 : decode cX12_copy 36 = .ok (.baload, 1) := by decide +kernel
theorem dX12_copy_37 : decode cX12_copy 37 = .ok (.ifCond .eq 13, 3) := by decide +kernel
theorem dX12_copy_40 : decode cX12_copy 40 = .ok (.aload_n 0, 1) := by decide +kernel
theorem dX12_copy_41 : decode cX12_copy 41 = .ok (.getfield 126, 3) := by decide +kernel
theorem dX12_copy_44 : decode cX12_copy 44 = .ok (.iload_n 1, 1) := by decide +kernel
theorem dX12_copy_45 : decode cX12_copy 45 = .ok (.iaload, 1) := by decide +kernel
theorem dX12_copy_46 : decode cX12_copy 46 = .ok (.iload_n 2, 1) := by decide +kernel
theorem dX12_copy_47 : decode cX12_copy 47 = .ok (.if_icmp .ne 24, 3) := by decide +kernel
theorem dX12_copy_50 : decode cX12_copy 50 = .ok (.aload_n 0, 1) := by decide +kernel
theorem dX12_copy_51 : decode cX12_copy 51 = .ok (.getfield 136, 3) := by decide +kernel
theorem dX12_copy_54 : decode cX12_copy 54 = .ok (.iload 4, 2) := by decide +kernel
theorem dX12_copy_56 : decode cX12_copy 56 = .ok (.baload, 1) := by decide +kernel
theorem dX12_copy_57 : decode cX12_copy 57 = .ok (.ifCond .eq 20, 3) := by decide +kernel
theorem dX12_copy_60 : decode cX12_copy 60 = .ok (.aload_n 0, 1) := by decide +kernel
theorem dX12_copy_61 : decode cX12_copy 61 = .ok (.getfield 126, 3) := by decide +kernel
theorem dX12_copy_64 : decode cX12_copy 64 = .ok (.iload 4, 2) := by decide +kernel
theorem dX12_copy_66 : decode cX12_copy 66 = .ok (.iaload, 1) := by decide +kernel
theorem dX12_copy_67 : decode cX12_copy 67 = .ok (.iload_n 2, 1) := by decide +kernel
theorem dX12_copy_68 : decode cX12_copy 68 = .ok (.if_icmp .eq 9, 3) := by decide +kernel
theorem dX12_copy_71 : decode cX12_copy 71 = .ok (.aload_n 0, 1) := by decide +kernel
theorem dX12_copy_72 : decode cX12_copy 72 = .ok (.iconst 3, 1) := by decide +kernel
theorem dX12_copy_73 : decode cX12_copy 73 = .ok (.invokevirtual 233, 3) := by decide +kernel
theorem dX12_copy_76 : decode cX12_copy 76 = .ok (.ireturn, 1) := by decide +kernel
theorem dX12_copy_77 : decode cX12_copy 77 = .ok (.aload_n 0, 1) := by decide +kernel
theorem dX12_copy_78 : decode cX12_copy 78 = .ok (.getfield 136, 3) := by decide +kernel
theorem dX12_copy_81 : decode cX12_copy 81 = .ok (.iload_n 1, 1) := by decide +kernel
theorem dX12_copy_82 : decode cX12_copy 82 = .ok (.baload, 1) := by decide +kernel
theorem dX12_copy_83 : decode cX12_copy 83 = .ok (.ifCond .eq 13, 3) := by decide +kernel
theorem dX12_copy_86 : decode cX12_copy 86 = .ok (.aload_n 0, 1) := by decide +kernel
theorem dX12_copy_87 : decode cX12_copy 87 = .ok (.getfield 136, 3) := by decide +kernel
theorem dX12_copy_90 : decode cX12_copy 90 = .ok (.iload 4, 2) := by decide +kernel
theorem dX12_copy_92 : decode cX12_copy 92 = .ok (.baload, 1) := by decide +kernel
theorem dX12_copy_93 : decode cX12_copy 93 = .ok (.ifCond .ne 9, 3) := by decide +kernel
theorem dX12_copy_96 : decode cX12_copy 96 = .ok (.aload_n 0, 1) := by decide +kernel
theorem dX12_copy_97 : decode cX12_copy 97 = .ok (.iconst 1, 1) := by decide +kernel
theorem dX12_copy_98 : decode cX12_copy 98 = .ok (.invokevirtual 233, 3) := by decide +kernel
theorem dX12_copy_101 : decode cX12_copy 101 = .ok (.ireturn, 1) := by decide +kernel
theorem dX12_copy_102 : decode cX12_copy 102 = .ok (.iload_n 3, 1) := by decide +kernel
theorem dX12_copy_103 : decode cX12_copy 103 = .ok (.ifCond .lt 49, 3) := by decide +kernel
theorem dX12_copy_106 : decode cX12_copy 106 = .ok (.iload 5, 2) := by decide +kernel
theorem dX12_copy_108 : decode cX12_copy 108 = .ok (.ifCond .lt 44, 3) := by decide +kernel
theorem dX12_copy_111 : decode cX12_copy 111 = .ok (.iload 6, 2) := by decide +kernel
theorem dX12_copy_113 : decode cX12_copy 113 = .ok (.ifCond .lt 39, 3) := by decide +kernel
theorem dX12_copy_116 : decode cX12_copy 116 = .ok (.iload_n 3, 1) := by decide +kernel
theorem dX12_copy_117 : decode cX12_copy 117 = .ok (.i2l, 1) := by decide +kernel
theorem dX12_copy_118 : decode cX12_copy 118 = .ok (.iload 6, 2) := by decide +kernel
theorem dX12_copy_120 : decode cX12_copy 120 = .ok (.i2l, 1) := by decide +kernel
theorem dX12_copy_121 : decode cX12_copy 121 = .ok (.ladd, 1) := by decide +kernel
theorem dX12_copy_122 : decode cX12_copy 122 = .ok (.aload_n 0, 1) := by decide +kernel
theorem dX12_copy_123 : decode cX12_copy 123 = .ok (.getfield 129, 3) := by decide +kernel
theorem dX12_copy_126 : decode cX12_copy 126 = .ok (.iload_n 1, 1) := by decide +kernel
theorem dX12_copy_127 : decode cX12_copy 127 = .ok (.iaload, 1) := by decide +kernel
theorem dX12_copy_128 : decode cX12_copy 128 = .ok (.i2l, 1) := by decide +kernel
theorem dX12_copy_129 : decode cX12_copy 129 = .ok (.lcmp, 1) := by decide +kernel
theorem dX12_copy_130 : decode cX12_copy 130 = .ok (.ifCond .gt 22, 3) := by decide +kernel
theorem dX12_copy_133 : decode cX12_copy 133 = .ok (.iload 5, 2) := by decide +kernel
theorem dX12_copy_135 : decode cX12_copy 135 = .ok (.i2l, 1) := by decide +kernel
theorem dX12_copy_136 : decode cX12_copy 136 = .ok (.iload 6, 2) := by decide +kernel
theorem dX12_copy_138 : decode cX12_copy 138 = .ok (.i2l, 1) := by decide +kernel
theorem dX12_copy_139 : decode cX12_copy 139 = .ok (.ladd, 1) := by decide +kernel
theorem dX12_copy_140 : decode cX12_copy 140 = .ok (.aload_n 0, 1) := by decide +kernel
theorem dX12_copy_141 : decode cX12_copy 141 = .ok (.getfield 129, 3) := by decide +kernel
theorem dX12_copy_144 : decode cX12_copy 144 = .ok (.iload 4, 2) := by decide +kernel
theorem dX12_copy_146 : decode cX12_copy 146 = .ok (.iaload, 1) := by decide +kernel
theorem dX12_copy_147 : decode cX12_copy 147 = .ok (.i2l, 1) := by decide +kernel
theorem dX12_copy_148 : decode cX12_copy 148 = .ok (.lcmp, 1) := by decide +kernel
theorem dX12_copy_149 : decode cX12_copy 149 = .ok (.ifCond .le 9, 3) := by decide +kernel
theorem dX12_copy_152 : decode cX12_copy 152 = .ok (.aload_n 0, 1) := by decide +kernel
theorem dX12_copy_153 : decode cX12_copy 153 = .ok (.iconst 2, 1) := by decide +kernel
theorem dX12_copy_154 : decode cX12_copy 154 = .ok (.invokevirtual 233, 3) := by decide +kernel
theorem dX12_copy_157 : decode cX12_copy 157 = .ok (.ireturn, 1) := by decide +kernel
theorem dX12_copy_158 : decode cX12_copy 158 = .ok (.iconst 0, 1) := by decide +kernel
theorem dX12_copy_159 : decode cX12_copy 159 = .ok (.istore 7, 2) := by decide +kernel
theorem dX12_copy_161 : decode cX12_copy 161 = .ok (.iload 7, 2) := by decide +kernel
theorem dX12_copy_163 : decode cX12_copy 163 = .ok (.iload 6, 2) := by decide +kernel
theorem dX12_copy_165 : decode cX12_copy 165 = .ok (.if_icmp .ge 30, 3) := by decide +kernel
theorem dX12_copy_168 : decode cX12_copy 168 = .ok (.aload_n 0, 1) := by decide +kernel
theorem dX12_copy_169 : decode cX12_copy 169 = .ok (.getfield 148, 3) := by decide +kernel
theorem dX12_copy_172 : decode cX12_copy 172 = .ok (.iload 7, 2) := by decide +kernel
theorem dX12_copy_174 : decode cX12_copy 174 = .ok (.aload_n 0, 1) := by decide +kernel
theorem dX12_copy_175 : decode cX12_copy 175 = .ok (.getfield 132, 3) := by decide +kernel
theorem dX12_copy_178 : decode cX12_copy 178 = .ok (.bipush 12, 2) := by decide +kernel
theorem dX12_copy_180 : decode cX12_copy 180 = .ok (.iload_n 1, 1) := by decide +kernel
theorem dX12_copy_181 : decode cX12_copy 181 = .ok (.imul, 1) := by decide +kernel
theorem dX12_copy_182 : decode cX12_copy 182 = .ok (.iload_n 3, 1) := by decide +kernel
theorem dX12_copy_183 : decode cX12_copy 183 = .ok (.iadd, 1) := by decide +kernel
theorem dX12_copy_184 : decode cX12_copy 184 = .ok (.iload 7, 2) := by decide +kernel
theorem dX12_copy_186 : decode cX12_copy 186 = .ok (.iadd, 1) := by decide +kernel
theorem dX12_copy_187 : decode cX12_copy 187 = .ok (.laload, 1) := by decide +kernel
theorem dX12_copy_188 : decode cX12_copy 188 = .ok (.lastore, 1) := by decide +kernel
theorem dX12_copy_189 : decode cX12_copy 189 = .ok (.iinc 7 1, 3) := by decide +kernel
theorem dX12_copy_192 : decode cX12_copy 192 = .ok (.goto (-31), 3) := by decide +kernel
theorem dX12_copy_195 : decode cX12_copy 195 = .ok (.iconst 0, 1) := by decide +kernel
theorem dX12_copy_196 : decode cX12_copy 196 = .ok (.istore 7, 2) := by decide +kernel
theorem dX12_copy_198 : decode cX12_copy 198 = .ok (.iload 7, 2) := by decide +kernel
theorem dX12_copy_200 : decode cX12_copy 200 = .ok (.iload 6, 2) := by decide +kernel
