theorem dX12_isState_46 : decode cX12_isState 46 = .ok (.iaload, 1) := by decide +kernel
theorem dX12_isState_47 : decode cX12_isState 47 = .ok (.if_icmp .ne 46, 3) := by decide +kernel
theorem dX12_isState_50 : decode cX12_isState 50 = .ok (.aload_n 0, 1) := by decide +kernel
theorem dX12_isState_51 : decode cX12_isState 51 = .ok (.getfield 114, 3) := by decide +kernel
theorem dX12_isState_54 : decode cX12_isState 54 = .ok (.bipush 30, 2) := by decide +kernel
theorem dX12_isState_56 : decode cX12_isState 56 = .ok (.iload_n 1, 1) := by decide +kernel
theorem dX12_isState_57 : decode cX12_isState 57 = .ok (.imul, 1) := by decide +kernel
theorem dX12_isState_58 : decode cX12_isState 58 = .ok (.iload_n 2, 1) := by decide +kernel
theorem dX12_isState_59 : decode cX12_isState 59 = .ok (.iadd, 1) := by decide +kernel
theorem dX12_isState_60 : decode cX12_isState 60 = .ok (.baload, 1) := by decide +kernel
theorem dX12_isState_61 : decode cX12_isState 61 = .ok (.aload_n 0, 1) := by decide +kernel
theorem dX12_isState_62 : decode cX12_isState 62 = .ok (.getfield 56, 3) := by decide +kernel
theorem dX12_isState_65 : decode cX12_isState 65 = .ok (.iload_n 2, 1) := by decide +kernel
theorem dX12_isState_66 : decode cX12_isState 66 = .ok (.baload, 1) := by decide +kernel
theorem dX12_isState_67 : decode cX12_isState 67 = .ok (.ifCond .eq 7, 3) := by decide +kernel
theorem dX12_isState_70 : decode cX12_isState 70 = .ok (.iconst 1, 1) := by decide +kernel
theorem dX12_isState_71 : decode cX12_isState 71 = .ok (.goto 4, 3) := by decide +kernel
theorem dX12_isState_74 : decode cX12_isState 74 = .ok (.iconst 0, 1) := by decide +kernel
theorem dX12_isState_75 : decode cX12_isState 75 = .ok (.aload_n 0, 1) := by decide +kernel
theorem dX12_isState_76 : decode cX12_isState 76 = .ok (.getfield 59, 3) := by decide +kernel
theorem dX12_isState_79 : decode cX12_isState 79 = .ok (.iload_n 2, 1) := by decide +kernel
theorem dX12_isState_80 : decode cX12_isState 80 = .ok (.baload, 1) := by decide +kernel
theorem dX12_isState_81 : decode cX12_isState 81 = .ok (.ifCond .eq 7, 3) := by decide +kernel
theorem dX12_isState_84 : decode cX12_isState 84 = .ok (.iconst 2, 1) := by decide +kernel
theorem dX12_isState_85 : decode cX12_isState 85 = .ok (.goto 4, 3) := by decide +kernel
theorem dX12_isState_88 : decode cX12_isState 88 = .ok (.iconst 0, 1) := by decide +kernel
theorem dX12_isState_89 : decode cX12_isState 89 = .ok (.iadd, 1) := by decide +kernel
theorem dX12_isState_90 : decode cX12_isState 90 = .ok (.if_icmp .eq 5, 3) := by decide +kernel
theorem dX12_isState_93 : decode cX12_isState 93 = .ok (.iconst 0, 1) := by decide +kernel
theorem dX12_isState_94 : decode cX12_isState 94 = .ok (.ireturn, 1) := by decide +kernel
theorem dX12_isState_95 : decode cX12_isState 95 = .ok (.iinc 2 1, 3) := by decide +kernel
theorem dX12_isState_98 : decode cX12_isState 98 = .ok (.goto (-96), 3) := by decide +kernel
theorem dX12_isState_101 : decode cX12_isState 101 = .ok (.iconst 1, 1) := by decide +kernel
theorem dX12_isState_102 : decode cX12_isState 102 = .ok (.ireturn, 1) := by decide +kernel
theorem dX12_tried_0 : decode cX12_tried 0 = .ok (.aload_n 0, 1) := by decide +kernel
theorem dX12_tried_1 : decode cX12_tried 1 = .ok (.iload_n 2, 1) := by decide +kernel
theorem dX12_tried_2 : decode cX12_tried 2 = .ok (.iload_n 3, 1) := by decide +kernel
theorem dX12_tried_3 : decode cX12_tried 3 = .ok (.iload 4, 2) := by decide +kernel
theorem dX12_tried_5 : decode cX12_tried 5 = .ok (.invokevirtual 398, 3) := by decide +kernel
theorem dX12_tried_8 : decode cX12_tried 8 = .ok (.ifCond .le 5, 3) := by decide +kernel
theorem dX12_tried_11 : decode cX12_tried 11 = .ok (.iconst 0, 1) := by decide +kernel
theorem dX12_tried_12 : decode cX12_tried 12 = .ok (.ireturn, 1) := by decide +kernel
theorem dX12_tried_13 : decode cX12_tried 13 = .ok (.aload_n 0, 1) := by decide +kernel
theorem dX12_tried_14 : decode cX12_tried 14 = .ok (.iload_n 2, 1) := by decide +kernel
theorem dX12_tried_15 : decode cX12_tried 15 = .ok (.iload_n 3, 1) := by decide +kernel
theorem dX12_tried_16 : decode cX12_tried 16 = .ok (.iload 4, 2) := by decide +kernel
theorem dX12_tried_18 : decode cX12_tried 18 = .ok (.invokevirtual 401, 3) := by decide +kernel
theorem dX12_tried_21 : decode cX12_tried 21 = .ok (.iconst 1, 1) := by decide +kernel
theorem dX12_tried_22 : decode cX12_tried 22 = .ok (.istore 5, 2) := by decide +kernel
theorem dX12_tried_24 : decode cX12_tried 24 = .ok (.iconst 0, 1) := by decide +kernel
theorem dX12_tried_25 : decode cX12_tried 25 = .ok (.istore 6, 2) := by decide +kernel
theorem dX12_tried_27 : decode cX12_tried 27 = .ok (.iload 6, 2) := by decide +kernel
theorem dX12_tried_29 : decode cX12_tried 29 = .ok (.aload_n 0, 1) := by decide +kernel
theorem dX12_tried_30 : decode cX12_tried 30 = .ok (.getfield 410, 3) := by decide +kernel
theorem dX12_tried_33 : decode cX12_tried 33 = .ok (.if_icmp .ge 30, 3) := by decide +kernel
theorem dX12_tried_36 : decode cX12_tried 36 = .ok (.iload 5, 2) := by decide +kernel
theorem dX12_tried_38 : decode cX12_tried 38 = .ok (.ifCond .eq 25, 3) := by decide +kernel
theorem dX12_tried_41 : decode cX12_tried 41 = .ok (.aload_n 0, 1) := by decide +kernel
theorem dX12_tried_42 : decode cX12_tried 42 = .ok (.iload 6, 2) := by decide +kernel
theorem dX12_tried_44 : decode cX12_tried 44 = .ok (.invokevirtual 413, 3) := by decide +kernel
theorem dX12_tried_47 : decode cX12_tried 47 = .ok (.ifCond .ne 7, 3) := by decide +kernel
theorem dX12_tried_50 : decode cX12_tried 50 = .ok (.iconst 1, 1) := by decide +kernel
theorem dX12_tried_51 : decode cX12_tried 51 = .ok (.goto 4, 3) := by decide +kernel
theorem dX12_tried_54 : decode cX12_tried 54 = .ok (.iconst 0, 1) := by decide +kernel
theorem dX12_tried_55 : decode cX12_tried 55 = .ok (.istore 5, 2) := by decide +kernel
theorem dX12_tried_57 : decode cX12_tried 57 = .ok (.iinc 6 1, 3) := by decide +kernel
theorem dX12_tried_60 : decode cX12_tried 60 = .ok (.goto (-33), 3) := by decide +kernel
theorem dX12_tried_63 : decode cX12_tried 63 = .ok (.iconst 0, 1) := by decide +kernel
theorem dX12_tried_64 : decode cX12_tried 64 = .ok (.istore 6, 2) := by decide +kernel
theorem dX12_tried_66 : decode cX12_tried 66 = .ok (.iload 5, 2) := by decide +kernel
theorem dX12_tried_68 : decode cX12_tried 68 = .ok (.ifCond .eq 130, 3) := by decide +kernel
theorem dX12_tried_71 : decode cX12_tried 71 = .ok (.aload_n 0, 1) := by decide +kernel
theorem dX12_tried_72 : decode cX12_tried 72 = .ok (.aload_n 0, 1) := by decide +kernel
theorem dX12_tried_73 : decode cX12_tried 73 = .ok (.getfield 410, 3) := by decide +kernel
theorem dX12_tried_76 : decode cX12_tried 76 = .ok (.invokevirtual 416, 3) := by decide +kernel
theorem dX12_tried_79 : decode cX12_tried 79 = .ok (.aload_n 0, 1) := by decide +kernel
theorem dX12_tried_80 : decode cX12_tried 80 = .ok (.getfield 117, 3) := by decide +kernel
theorem dX12_tried_83 : decode cX12_tried 83 = .ok (.aload_n 0, 1) := by decide +kernel
theorem dX12_tried_84 : decode cX12_tried 84 = .ok (.getfield 410, 3) := by decide +kernel
theorem dX12_tried_87 : decode cX12_tried 87 = .ok (.iload_n 1, 1) := by decide +kernel
theorem dX12_tried_88 : decode cX12_tried 88 = .ok (.iastore, 1) := by decide +kernel
theorem dX12_tried_89 : decode cX12_tried 89 = .ok (.aload_n 0, 1) := by decide +kernel
theorem dX12_tried_90 : decode cX12_tried 90 = .ok (.getfield 120, 3) := by decide +kernel
theorem dX12_tried_93 : decode cX12_tried 93 = .ok (.iconst 3, 1) := by decide +kernel
theorem dX12_tried_94 : decode cX12_tried 94 = .ok (.aload_n 0, 1) := by decide +kernel
theorem dX12_tried_95 : decode cX12_tried 95 = .ok (.getfield 410, 3) := by decide +kernel
theorem dX12_tried_98 : decode cX12_tried 98 = .ok (.imul, 1) := by decide +kernel
theorem dX12_tried_99 : decode cX12_tried 99 = .ok (.iload_n 2, 1) := by decide +kernel
theorem dX12_tried_100 : decode cX12_tried 100 = .ok (.iastore, 1) := by decide +kernel
theorem dX12_tried_101 : decode cX12_tried 101 = .ok (.aload_n 0, 1) := by decide +kernel
theorem dX12_tried_102 : decode cX12_tried 102 = .ok (.getfield 120, 3) := by decide +kernel
theorem dX12_tried_105 : decode cX12_tried 105 = .ok (.iconst 3, 1) := by decide +kernel
theorem dX12_tried_106 : decode cX12_tried 106 = .ok (.aload_n 0, 1) := by decide +kernel
theorem dX12_tried_107 : decode cX12_tried 107 = .ok (.getfield 410, 3) := by decide +kernel
theorem dX12_tried_110 : decode cX12_tried 110 = .ok (.imul, 1) := by decide +kernel
theorem dX12_tried_111 : decode cX12_tried 111 = .ok (.iconst 1, 1) := by decide +kernel
theorem dX12_tried_112 : decode cX12_tried 112 = .ok (.iadd, 1) := by decide +kernel
theorem dX12_tried_113 : decode cX12_tried 113 = .ok (.iload_n 2, 1) := by decide +kernel
theorem dX12_tried_114 : decode cX12_tried 114 = .ok (.bipush 11, 2) := by decide +kernel
theorem dX12_tried_116 : decode cX12_tried 116 = .ok (.if_icmp .ge 7, 3) := by decide +kernel
theorem dX12_tried_119 : decode cX12_tried 119 = .ok (.iload_n 3, 1) := by decide +kernel
theorem dX12_tried_120 : decode cX12_tried 120 = .ok (.goto 4, 3) := by decide +kernel
theorem dX12_tried_123 : decode cX12_tried 123 = .ok (.iconst 0, 1) := by decide +kernel
theorem dX12_tried_124 : decode cX12_tried 124 = .ok (.iastore, 1) := by decide +kernel
theorem dX12_tried_125 : decode cX12_tried 125 = .ok (.aload_n 0, 1) := by decide +kernel
theorem dX12_tried_126 : decode cX12_tried 126 = .ok (.getfield 120, 3) := by decide +kernel
theorem dX12_tried_129 : decode cX12_tried 129 = .ok (.iconst 3, 1) := by decide +kernel
theorem dX12_tried_130 : decode cX12_tried 130 = .ok (.aload_n 0, 1) := by decide +kernel
theorem dX12_tried_131 : decode cX12_tried 131 = .ok (.getfield 410, 3) := by decide +kernel
theorem dX12_tried_134 : decode cX12_tried 134 = .ok (.imul, 1) := by decide +kernel
theorem dX12_tried_135 : decode cX12_tried 135 = .ok (.iconst 2, 1) := by decide +kernel
theorem dX12_tried_136 : decode cX12_tried 136 = .ok (.iadd, 1) := by decide +kernel
theorem dX12_tried_137 : decode cX12_tried 137 = .ok (.iload_n 2, 1) := by decide +kernel
theorem dX12_tried_138 : decode cX12_tried 138 = .ok (.invokestatic 389, 3) := by decide +kernel
theorem dX12_tried_141 : decode cX12_tried 141 = .ok (.ifCond .eq 8, 3) := by decide +kernel
theorem dX12_tried_144 : decode cX12_tried 144 = .ok (.iload 4, 2) := by decide +kernel
theorem dX12_tried_146 : decode cX12_tried 146 = .ok (.goto 4, 3) := by decide +kernel
theorem dX12_tried_149 : decode cX12_tried 149 = .ok (.iconst 0, 1) := by decide +kernel
theorem dX12_tried_150 : decode cX12_tried 150 = .ok (.iastore, 1) := by decide +kernel
theorem dX12_tried_151 : decode cX12_tried 151 = .ok (.aload_n 0, 1) := by decide +kernel
theorem dX12_tried_152 : decode cX12_tried 152 = .ok (.dup, 1) := by decide +kernel
theorem dX12_tried_153 : decode cX12_tried 153 = .ok (.getfield 410, 3) := by decide +kernel
theorem dX12_tried_156 : decode cX12_tried 156 = .ok (.iconst 1, 1) := by decide +kernel
theorem dX12_tried_157 : decode cX12_tried 157 = .ok (.iadd, 1) := by decide +kernel
theorem dX12_tried_158 : decode cX12_tried 158 = .ok (.putfield 410, 3) := by decide +kernel
theorem dX12_tried_161 : decode cX12_tried 161 = .ok (.aload_n 0, 1) := by decide +kernel
theorem dX12_tried_162 : decode cX12_tried 162 = .ok (.getfield 50, 3) := by decide +kernel
theorem dX12_tried_165 : decode cX12_tried 165 = .ok (.aload_n 0, 1) := by decide +kernel
theorem dX12_tried_166 : decode cX12_tried 166 = .ok (.getfield 419, 3) := by decide +kernel
theorem dX12_tried_169 : decode cX12_tried 169 = .ok (.iaload, 1) := by decide +kernel
theorem dX12_tried_170 : decode cX12_tried 170 = .ok (.bipush (-9), 2) := by decide +kernel
theorem dX12_tried_172 : decode cX12_tried 172 = .ok (.if_icmp .eq 23, 3) := by decide +kernel
theorem dX12_tried_175 : decode cX12_tried 175 = .ok (.aload_n 0, 1) := by decide +kernel
theorem dX12_tried_176 : decode cX12_tried 176 = .ok (.getfield 53, 3) := by decide +kernel
theorem dX12_tried_179 : decode cX12_tried 179 = .ok (.aload_n 0, 1) := by decide +kernel
theorem dX12_tried_180 : decode cX12_tried 180 = .ok (.getfield 419, 3) := by decide +kernel
theorem dX12_tried_183 : decode cX12_tried 183 = .ok (.iaload, 1) := by decide +kernel
theorem dX12_tried_184 : decode cX12_tried 184 = .ok (.aload_n 0, 1) := by decide +kernel
theorem dX12_tried_185 : decode cX12_tried 185 = .ok (.getfield 422, 3) := by decide +kernel
theorem dX12_tried_188 : decode cX12_tried 188 = .ok (.if_icmp .ne 7, 3) := by decide +kernel
theorem dX12_tried_191 : decode cX12_tried 191 = .ok (.iconst 1, 1) := by decide +kernel
theorem dX12_tried_192 : decode cX12_tried 192 = .ok (.goto 4, 3) := by decide +kernel
theorem dX12_tried_195 : decode cX12_tried 195 = .ok (.iconst 0, 1) := by decide +kernel
theorem dX12_tried_196 : decode cX12_tried 196 = .ok (.istore 6, 2) := by decide +kernel
theorem dX12_tried_198 : decode cX12_tried 198 = .ok (.aload_n 0, 1) := by decide +kernel
theorem dX12_tried_199 : decode cX12_tried 199 = .ok (.iload_n 1, 1) := by decide +kernel
theorem dX12_tried_200 : decode cX12_tried 200 = .ok (.invokevirtual 425, 3) := by decide +kernel
theorem dX12_tried_203 : decode cX12_tried 203 = .ok (.iload 6, 2) := by decide +kernel
theorem dX12_tried_205 : decode cX12_tried 205 = .ok (.ireturn, 1) := by decide +kernel
theorem dX12_triedAll_0 : decode cX12_triedAll 0 = .ok (.aload_n 0, 1) := by decide +kernel
theorem dX12_triedAll_1 : decode cX12_triedAll 1 = .ok (.iload_n 1, 1) := by decide +kernel
theorem dX12_triedAll_2 : decode cX12_triedAll 2 = .ok (.invokevirtual 425, 3) := by decide +kernel
theorem dX12_triedAll_5 : decode cX12_triedAll 5 = .ok (.aload_n 0, 1) := by decide +kernel
theorem dX12_triedAll_6 : decode cX12_triedAll 6 = .ok (.invokevirtual 395, 3) := by decide +kernel
theorem dX12_triedAll_9 : decode cX12_triedAll 9 = .ok (.iconst 0, 1) := by decide +kernel
theorem dX12_triedAll_10 : decode cX12_triedAll 10 = .ok (.istore_n 2, 1) := by decide +kernel
theorem dX12_triedAll_11 : decode cX12_triedAll 11 = .ok (.iload_n 2, 1) := by decide +kernel
theorem dX12_triedAll_12 : decode cX12_triedAll 12 = .ok (.bipush 12, 2) := by decide +kernel
theorem dX12_triedAll_14 : decode cX12_triedAll 14 = .ok (.if_icmp .ge 106, 3) := by decide +kernel
theorem dX12_triedAll_17 : decode cX12_triedAll 17 = .ok (.iload_n 2, 1) := by decide +kernel
theorem dX12_triedAll_18 : decode cX12_triedAll 18 = .ok (.ifCond .ne 8, 3) := by decide +kernel
theorem dX12_triedAll_21 : decode cX12_triedAll 21 = .ok (.bipush 10, 2) := by decide +kernel
theorem dX12_triedAll_23 : decode cX12_triedAll 23 = .ok (.goto 17, 3) := by decide +kernel
theorem dX12_triedAll_26 : decode cX12_triedAll 26 = .ok (.iload_n 2, 1) := by decide +kernel
theorem dX12_triedAll_27 : decode cX12_triedAll 27 = .ok (.bipush 11, 2) := by decide +kernel
theorem dX12_triedAll_29 : decode cX12_triedAll 29 = .ok (.if_icmp .ne 7, 3) := by decide +kernel
theorem dX12_triedAll_32 : decode cX12_triedAll 32 = .ok (.iconst 1, 1) := by decide +kernel
theorem dX12_triedAll_33 : decode cX12_triedAll 33 = .ok (.goto 7, 3) := by decide +kernel
theorem dX12_triedAll_36 : decode cX12_triedAll 36 = .ok (.aload_n 0, 1) := by decide +kernel
theorem dX12_triedAll_37 : decode cX12_triedAll 37 = .ok (.getfield 177, 3) := by decide +kernel
theorem dX12_triedAll_40 : decode cX12_triedAll 40 = .ok (.istore_n 3, 1) := by decide +kernel
theorem dX12_triedAll_41 : decode cX12_triedAll 41 = .ok (.iconst 0, 1) := by decide +kernel
theorem dX12_triedAll_42 : decode cX12_triedAll 42 = .ok (.istore 4, 2) := by decide +kernel
theorem dX12_triedAll_44 : decode cX12_triedAll 44 = .ok (.iload 4, 2) := by decide +kernel
theorem dX12_triedAll_46 : decode cX12_triedAll 46 = .ok (.iload_n 3, 1) := by decide +kernel
theorem dX12_triedAll_47 : decode cX12_triedAll 47 = .ok (.if_icmp .ge 67, 3) := by decide +kernel
theorem dX12_triedAll_50 : decode cX12_triedAll 50 = .ok (.iload_n 2, 1) := by decide +kernel
theorem dX12_triedAll_51 : decode cX12_triedAll 51 = .ok (.invokestatic 389, 3) := by decide +kernel
theorem dX12_triedAll_54 : decode cX12_triedAll 54 = .ok (.ifCond .eq 10, 3) := by decide +kernel
theorem dX12_triedAll_57 : decode cX12_triedAll 57 = .ok (.aload_n 0, 1) := by decide +kernel
theorem dX12_triedAll_58 : decode cX12_triedAll 58 = .ok (.getfield 177, 3) := by decide +kernel
theorem dX12_triedAll_61 : decode cX12_triedAll 61 = .ok (.goto 4, 3) := by decide +kernel
theorem dX12_triedAll_64 : decode cX12_triedAll 64 = .ok (.iconst 1, 1) := by decide +kernel
theorem dX12_triedAll_65 : decode cX12_triedAll 65 = .ok (.istore 5, 2) := by decide +kernel
theorem dX12_triedAll_67 : decode cX12_triedAll 67 = .ok (.iconst 0, 1) := by decide +kernel
theorem dX12_triedAll_68 : decode cX12_triedAll 68 = .ok (.istore 6, 2) := by decide +kernel
theorem dX12_triedAll_70 : decode cX12_triedAll 70 = .ok (.iload 6, 2) := by decide +kernel
theorem dX12_triedAll_72 : decode cX12_triedAll 72 = .ok (.iload 5, 2) := by decide +kernel
theorem dX12_triedAll_74 : decode cX12_triedAll 74 = .ok (.if_icmp .ge 34, 3) := by decide +kernel
theorem dX12_triedAll_77 : decode cX12_triedAll 77 = .ok (.aload_n 0, 1) := by decide +kernel
theorem dX12_triedAll_78 : decode cX12_triedAll 78 = .ok (.getfield 410, 3) := by decide +kernel
theorem dX12_triedAll_81 : decode cX12_triedAll 81 = .ok (.sipush 300, 3) := by decide +kernel
theorem dX12_triedAll_84 : decode cX12_triedAll 84 = .ok (.if_icmp .ge 24, 3) := by decide +kernel
theorem dX12_triedAll_87 : decode cX12_triedAll 87 = .ok (.aload_n 0, 1) := by decide +kernel
theorem dX12_triedAll_88 : decode cX12_triedAll 88 = .ok (.iload_n 1, 1) := by decide +kernel
theorem dX12_triedAll_89 : decode cX12_triedAll 89 = .ok (.iload_n 2, 1) := by decide +kernel
theorem dX12_triedAll_90 : decode cX12_triedAll 90 = .ok (.iload 4, 2) := by decide +kernel
theorem dX12_triedAll_92 : decode cX12_triedAll 92 = .ok (.iload 6, 2) := by decide +kernel
theorem dX12_triedAll_94 : decode cX12_triedAll 94 = .ok (.invokevirtual 428, 3) := by decide +kernel
theorem dX12_triedAll_97 : decode cX12_triedAll 97 = .ok (.ifCond .eq 5, 3) := by decide +kernel
theorem dX12_triedAll_100 : decode cX12_triedAll 100 = .ok (.iconst 1, 1) := by decide +kernel
theorem dX12_triedAll_101 : decode cX12_triedAll 101 = .ok (.ireturn, 1) := by decide +kernel
theorem dX12_triedAll_102 : decode cX12_triedAll 102 = .ok (.iinc 6 1, 3) := by decide +kernel
theorem dX12_triedAll_105 : decode cX12_triedAll 105 = .ok (.goto (-35), 3) := by decide +kernel
theorem dX12_triedAll_108 : decode cX12_triedAll 108 = .ok (.iinc 4 1, 3) := by decide +kernel
theorem dX12_triedAll_111 : decode cX12_triedAll 111 = .ok (.goto (-67), 3) := by decide +kernel
theorem dX12_triedAll_114 : decode cX12_triedAll 114 = .ok (.iinc 2 1, 3) := by decide +kernel
theorem dX12_triedAll_117 : decode cX12_triedAll 117 = .ok (.goto (-106), 3) := by decide +kernel
theorem dX12_triedAll_120 : decode cX12_triedAll 120 = .ok (.iconst 0, 1) := by decide +kernel
theorem dX12_triedAll_121 : decode cX12_triedAll 121 = .ok (.ireturn, 1) := by decide +kernel
theorem dX12_found_0 : decode cX12_found 0 = .ok (.iconst 0, 1) := by decide +kernel
theorem dX12_found_1 : decode cX12_found 1 = .ok (.istore_n 2, 1) := by decide +kernel
theorem dX12_found_2 : decode cX12_found 2 = .ok (.iload_n 1, 1) := by decide +kernel
theorem dX12_found_3 : decode cX12_found 3 = .ok (.istore_n 3, 1) := by decide +kernel
theorem dX12_found_4 : decode cX12_found 4 = .ok (.iload_n 3, 1) := by decide +kernel
theorem dX12_found_5 : decode cX12_found 5 = .ok (.ifCond .le 16, 3) := by decide +kernel
theorem dX12_found_8 : decode cX12_found 8 = .ok (.iinc 2 1, 3) := by decide +kernel
theorem dX12_found_11 : decode cX12_found 11 = .ok (.aload_n 0, 1) := by decide +kernel
theorem dX12_found_12 : decode cX12_found 12 = .ok (.getfield 117, 3) := by decide +kernel
theorem dX12_found_15 : decode cX12_found 15 = .ok (.iload_n 3, 1) := by decide +kernel
theorem dX12_found_16 : decode cX12_found 16 = .ok (.iaload, 1) := by decide +kernel
theorem dX12_found_17 : decode cX12_found 17 = .ok (.istore_n 3, 1) := by decide +kernel
theorem dX12_found_18 : decode cX12_found 18 = .ok (.goto (-14), 3) := by decide +kernel
theorem dX12_found_21 : decode cX12_found 21 = .ok (.aload_n 0, 1) := by decide +kernel
theorem dX12_found_22 : decode cX12_found 22 = .ok (.iload_n 2, 1) := by decide +kernel
theorem dX12_found_23 : decode cX12_found 23 = .ok (.putfield 158, 3) := by decide +kernel
theorem dX12_found_26 : decode cX12_found 26 = .ok (.iload_n 2, 1) := by decide +kernel
theorem dX12_found_27 : decode cX12_found 27 = .ok (.istore_n 3, 1) := by decide +kernel
theorem dX12_found_28 : decode cX12_found 28 = .ok (.iload_n 1, 1) := by decide +kernel
theorem dX12_found_29 : decode cX12_found 29 = .ok (.istore 4, 2) := by decide +kernel
theorem dX12_found_31 : decode cX12_found 31 = .ok (.iload 4, 2) := by decide +kernel
theorem dX12_found_33 : decode cX12_found 33 = .ok (.ifCond .le 56, 3) := by decide +kernel
theorem dX12_found_36 : decode cX12_found 36 = .ok (.iinc 3 (-1), 3) := by decide +kernel
theorem dX12_found_39 : decode cX12_found 39 = .ok (.iconst 0, 1) := by decide +kernel
theorem dX12_found_40 : decode cX12_found 40 = .ok (.istore 5, 2) := by decide +kernel
theorem dX12_found_42 : decode cX12_found 42 = .ok (.iload 5, 2) := by decide +kernel
theorem dX12_found_44 : decode cX12_found 44 = .ok (.iconst 3, 1) := by decide +kernel
theorem dX12_found_45 : decode cX12_found 45 = .ok (.if_icmp .ge 32, 3) := by decide +kernel
theorem dX12_found_48 : decode cX12_found 48 = .ok (.aload_n 0, 1) := by decide +kernel
theorem dX12_found_49 : decode cX12_found 49 = .ok (.getfield 123, 3) := by decide +kernel
theorem dX12_found_52 : decode cX12_found 52 = .ok (.iconst 3, 1) := by decide +kernel
theorem dX12_found_53 : decode cX12_found 53 = .ok (.iload_n 3, 1) := by decide +kernel
theorem dX12_found_54 : decode cX12_found 54 = .ok (.imul, 1) := by decide +kernel
theorem dX12_found_55 : decode cX12_found 55 = .ok (.iload 5, 2) := by decide +kernel
theorem dX12_found_57 : decode cX12_found 57 = .ok (.iadd, 1) := by decide +kernel
theorem dX12_found_58 : decode cX12_found 58 = .ok (.aload_n 0, 1) := by decide +kernel
theorem dX12_found_59 : decode cX12_found 59 = .ok (.getfield 120, 3) := by decide +kernel
theorem dX12_found_62 : decode cX12_found 62 = .ok (.iconst 3, 1) := by decide +kernel
theorem dX12_found_63 : decode cX12_found 63 = .ok (.iload 4, 2) := by decide +kernel
theorem dX12_found_65 : decode cX12_found 65 = .ok (.imul, 1) := by decide +kernel
theorem dX12_found_66 : decode cX12_found 66 = .ok (.iload 5, 2) := by decide +kernel
theorem dX12_found_68 : decode cX12_found 68 = .ok (.iadd, 1) := by decide +kernel
theorem dX12_found_69 : decode cX12_found 69 = .ok (.iaload, 1) := by decide +kernel
theorem dX12_found_70 : decode cX12_found 70 = .ok (.iastore, 1) := by decide +kernel
theorem dX12_found_71 : decode cX12_found 71 = .ok (.iinc 5 1, 3) := by decide +kernel
theorem dX12_found_74 : decode cX12_found 74 = .ok (.goto (-32), 3) := by decide +kernel
theorem dX12_found_77 : decode cX12_found 77 = .ok (.aload_n 0, 1) := by decide +kernel
theorem dX12_found_78 : decode cX12_found 78 = .ok (.getfield 117, 3) := by decide +kernel
theorem dX12_found_81 : decode cX12_found 81 = .ok (.iload 4, 2) := by decide +kernel
theorem dX12_found_83 : decode cX12_found 83 = .ok (.iaload, 1) := by decide +kernel
theorem dX12_found_84 : decode cX12_found 84 = .ok (.istore 4, 2) := by decide +kernel
theorem dX12_found_86 : decode cX12_found 86 = .ok (.goto (-55), 3) := by decide +kernel
theorem dX12_found_89 : decode cX12_found 89 = .ok (.iload_n 2, 1) := by decide +kernel
theorem dX12_found_90 : decode cX12_found 90 = .ok (.ireturn, 1) := by decide +kernel
theorem dX12_seek_0 : decode cX12_seek 0 = .ok (.aload_n 0, 1) := by decide +kernel
theorem dX12_seek_1 : decode cX12_seek 1 = .ok (.iload_n 1, 1) := by decide +kernel
theorem dX12_seek_2 : decode cX12_seek 2 = .ok (.invokevirtual 180, 3) := by decide +kernel
theorem dX12_seek_5 : decode cX12_seek 5 = .ok (.ifCond .eq 23, 3) := by decide +kernel
theorem dX12_seek_8 : decode cX12_seek 8 = .ok (.aload_n 0, 1) := by decide +kernel
theorem dX12_seek_9 : decode cX12_seek 9 = .ok (.iload_n 2, 1) := by decide +kernel
theorem dX12_seek_10 : decode cX12_seek 10 = .ok (.invokevirtual 180, 3) := by decide +kernel
theorem dX12_seek_13 : decode cX12_seek 13 = .ok (.ifCond .eq 15, 3) := by decide +kernel
theorem dX12_seek_16 : decode cX12_seek 16 = .ok (.iload_n 3, 1) := by decide +kernel
theorem dX12_seek_17 : decode cX12_seek 17 = .ok (.i2l, 1) := by decide +kernel
theorem dX12_seek_18 : decode cX12_seek 18 = .ok (.lconst 0, 1) := by decide +kernel
theorem dX12_seek_19 : decode cX12_seek 19 = .ok (.ldc2_w 431, 3) := by decide +kernel
theorem dX12_seek_22 : decode cX12_seek 22 = .ok (.invokestatic 166, 3) := by decide +kernel
theorem dX12_seek_25 : decode cX12_seek 25 = .ok (.ifCond .ne 5, 3) := by decide +kernel
theorem dX12_seek_28 : decode cX12_seek 28 = .ok (.iconst (-1), 1) := by decide +kernel
theorem dX12_seek_29 : decode cX12_seek 29 = .ok (.ireturn, 1) := by decide +kernel
theorem dX12_seek_30 : decode cX12_seek 30 = .ok (.aload_n 0, 1) := by decide +kernel
theorem dX12_seek_31 : decode cX12_seek 31 = .ok (.getfield 155, 3) := by decide +kernel
theorem dX12_seek_34 : decode cX12_seek 34 = .ok (.bipush (-9), 2) := by decide +kernel
theorem dX12_seek_36 : decode cX12_seek 36 = .ok (.if_icmp .ne 6, 3) := by decide +kernel
theorem dX12_seek_39 : decode cX12_seek 39 = .ok (.bipush (-5), 2) := by decide +kernel
theorem dX12_seek_41 : decode cX12_seek 41 = .ok (.ireturn, 1) := by decide +kernel
theorem dX12_seek_42 : decode cX12_seek 42 = .ok (.aload_n 0, 1) := by decide +kernel
theorem dX12_seek_43 : decode cX12_seek 43 = .ok (.invokevirtual 392, 3) := by decide +kernel
theorem dX12_seek_46 : decode cX12_seek 46 = .ok (.aload_n 0, 1) := by decide +kernel
theorem dX12_seek_47 : decode cX12_seek 47 = .ok (.iload_n 1, 1) := by decide +kernel
theorem dX12_seek_48 : decode cX12_seek 48 = .ok (.putfield 419, 3) := by decide +kernel
theorem dX12_seek_51 : decode cX12_seek 51 = .ok (.aload_n 0, 1) := by decide +kernel
theorem dX12_seek_52 : decode cX12_seek 52 = .ok (.iload_n 2, 1) := by decide +kernel
theorem dX12_seek_53 : decode cX12_seek 53 = .ok (.putfield 422, 3) := by decide +kernel
theorem dX12_seek_56 : decode cX12_seek 56 = .ok (.aload_n 0, 1) := by decide +kernel
theorem dX12_seek_57 : decode cX12_seek 57 = .ok (.bipush (-9), 2) := by decide +kernel
theorem dX12_seek_59 : decode cX12_seek 59 = .ok (.putfield 158, 3) := by decide +kernel
theorem dX12_seek_62 : decode cX12_seek 62 = .ok (.aload_n 0, 1) := by decide +kernel
theorem dX12_seek_63 : decode cX12_seek 63 = .ok (.sipush 300, 3) := by decide +kernel
theorem dX12_seek_66 : decode cX12_seek 66 = .ok (.invokevirtual 416, 3) := by decide +kernel
theorem dX12_seek_69 : decode cX12_seek 69 = .ok (.aload_n 0, 1) := by decide +kernel
theorem dX12_seek_70 : decode cX12_seek 70 = .ok (.iconst 0, 1) := by decide +kernel
theorem dX12_seek_71 : decode cX12_seek 71 = .ok (.invokevirtual 416, 3) := by decide +kernel
theorem dX12_seek_74 : decode cX12_seek 74 = .ok (.aload_n 0, 1) := by decide +kernel
theorem dX12_seek_75 : decode cX12_seek 75 = .ok (.getfield 117, 3) := by decide +kernel
theorem dX12_seek_78 : decode cX12_seek 78 = .ok (.iconst 0, 1) := by decide +kernel
theorem dX12_seek_79 : decode cX12_seek 79 = .ok (.bipush (-9), 2) := by decide +kernel
theorem dX12_seek_81 : decode cX12_seek 81 = .ok (.iastore, 1) := by decide +kernel
theorem dX12_seek_82 : decode cX12_seek 82 = .ok (.aload_n 0, 1) := by decide +kernel
theorem dX12_seek_83 : decode cX12_seek 83 = .ok (.iconst 1, 1) := by decide +kernel
theorem dX12_seek_84 : decode cX12_seek 84 = .ok (.putfield 410, 3) := by decide +kernel
theorem dX12_seek_87 : decode cX12_seek 87 = .ok (.bipush (-9), 2) := by decide +kernel
theorem dX12_seek_89 : decode cX12_seek 89 = .ok (.istore 4, 2) := by decide +kernel
theorem dX12_seek_91 : decode cX12_seek 91 = .ok (.aload_n 0, 1) := by decide +kernel
theorem dX12_seek_92 : decode cX12_seek 92 = .ok (.getfield 50, 3) := by decide +kernel
theorem dX12_seek_95 : decode cX12_seek 95 = .ok (.iload_n 1, 1) := by decide +kernel
theorem dX12_seek_96 : decode cX12_seek 96 = .ok (.iaload, 1) := by decide +kernel
theorem dX12_seek_97 : decode cX12_seek 97 = .ok (.bipush (-9), 2) := by decide +kernel
theorem dX12_seek_99 : decode cX12_seek 99 = .ok (.if_icmp .eq 20, 3) := by decide +kernel
theorem dX12_seek_102 : decode cX12_seek 102 = .ok (.aload_n 0, 1) := by decide +kernel
theorem dX12_seek_103 : decode cX12_seek 103 = .ok (.getfield 53, 3) := by decide +kernel
theorem dX12_seek_106 : decode cX12_seek 106 = .ok (.iload_n 1, 1) := by decide +kernel
theorem dX12_seek_107 : decode cX12_seek 107 = .ok (.iaload, 1) := by decide +kernel
theorem dX12_seek_108 : decode cX12_seek 108 = .ok (.iload_n 2, 1) := by decide +kernel
theorem dX12_seek_109 : decode cX12_seek 109 = .ok (.if_icmp .ne 10, 3) := by decide +kernel
theorem dX12_seek_112 : decode cX12_seek 112 = .ok (.aload_n 0, 1) := by decide +kernel
theorem dX12_seek_113 : decode cX12_seek 113 = .ok (.iconst 0, 1) := by decide +kernel
theorem dX12_seek_114 : decode cX12_seek 114 = .ok (.invokevirtual 433, 3) := by decide +kernel
theorem dX12_seek_117 : decode cX12_seek 117 = .ok (.istore 4, 2) := by decide +kernel
theorem dX12_seek_119 : decode cX12_seek 119 = .ok (.iconst 0, 1) := by decide +kernel
theorem dX12_seek_120 : decode cX12_seek 120 = .ok (.istore 5, 2) := by decide +kernel
theorem dX12_seek_122 : decode cX12_seek 122 = .ok (.iload 5, 2) := by decide +kernel
theorem dX12_seek_124 : decode cX12_seek 124 = .ok (.iload_n 3, 1) := by decide +kernel
theorem dX12_seek_125 : decode cX12_seek 125 = .ok (.if_icmp .ge 56, 3) := by decide +kernel
theorem dX12_seek_128 : decode cX12_seek 128 = .ok (.iload 5, 2) := by decide +kernel
theorem dX12_seek_130 : decode cX12_seek 130 = .ok (.aload_n 0, 1) := by decide +kernel
theorem dX12_seek_131 : decode cX12_seek 131 = .ok (.getfield 410, 3) := by decide +kernel
theorem dX12_seek_134 : decode cX12_seek 134 = .ok (.if_icmp .ge 47, 3) := by decide +kernel
theorem dX12_seek_137 : decode cX12_seek 137 = .ok (.aload_n 0, 1) := by decide +kernel
theorem dX12_seek_138 : decode cX12_seek 138 = .ok (.getfield 410, 3) := by decide +kernel
theorem dX12_seek_141 : decode cX12_seek 141 = .ok (.sipush 300, 3) := by decide +kernel
theorem dX12_seek_144 : decode cX12_seek 144 = .ok (.if_icmp .ge 37, 3) := by decide +kernel
theorem dX12_seek_147 : decode cX12_seek 147 = .ok (.iload 4, 2) := by decide +kernel
theorem dX12_seek_149 : decode cX12_seek 149 = .ok (.bipush (-9), 2) := by decide +kernel
theorem dX12_seek_151 : decode cX12_seek 151 = .ok (.if_icmp .ne 30, 3) := by decide +kernel
theorem dX12_seek_154 : decode cX12_seek 154 = .ok (.aload_n 0, 1) := by decide +kernel
theorem dX12_seek_155 : decode cX12_seek 155 = .ok (.iload 5, 2) := by decide +kernel
theorem dX12_seek_157 : decode cX12_seek 157 = .ok (.invokevirtual 436, 3) := by decide +kernel
theorem dX12_seek_160 : decode cX12_seek 160 = .ok (.ifCond .eq 15, 3) := by decide +kernel
theorem dX12_seek_163 : decode cX12_seek 163 = .ok (.aload_n 0, 1) := by decide +kernel
theorem dX12_seek_164 : decode cX12_seek 164 = .ok (.aload_n 0, 1) := by decide +kernel
theorem dX12_seek_165 : decode cX12_seek 165 = .ok (.getfield 410, 3) := by decide +kernel
theorem dX12_seek_168 : decode cX12_seek 168 = .ok (.iconst 1, 1) := by decide +kernel
theorem dX12_seek_169 : decode cX12_seek 169 = .ok (.isub, 1) := by decide +kernel
theorem dX12_seek_170 : decode cX12_seek 170 = .ok (.invokevirtual 433, 3) := by decide +kernel
theorem dX12_seek_173 : decode cX12_seek 173 = .ok (.istore 4, 2) := by decide +kernel
theorem dX12_seek_175 : decode cX12_seek 175 = .ok (.iinc 5 1, 3) := by decide +kernel
theorem dX12_seek_178 : decode cX12_seek 178 = .ok (.goto (-56), 3) := by decide +kernel
theorem dX12_seek_181 : decode cX12_seek 181 = .ok (.aload_n 0, 1) := by decide +kernel
theorem dX12_seek_182 : decode cX12_seek 182 = .ok (.sipush 300, 3) := by decide +kernel
theorem dX12_seek_185 : decode cX12_seek 185 = .ok (.invokevirtual 425, 3) := by decide +kernel
theorem dX12_seek_188 : decode cX12_seek 188 = .ok (.iload 4, 2) := by decide +kernel
theorem dX12_seek_190 : decode cX12_seek 190 = .ok (.ireturn, 1) := by decide +kernel
theorem dX12_sought_0 : decode cX12_sought 0 = .ok (.iload_n 2, 1) := by decide +kernel
theorem dX12_sought_1 : decode cX12_sought 1 = .ok (.i2l, 1) := by decide +kernel
theorem dX12_sought_2 : decode cX12_sought 2 = .ok (.lconst 0, 1) := by decide +kernel
theorem dX12_sought_3 : decode cX12_sought 3 = .ok (.ldc2_w 254, 3) := by decide +kernel
theorem dX12_sought_6 : decode cX12_sought 6 = .ok (.invokestatic 166, 3) := by decide +kernel
theorem dX12_sought_9 : decode cX12_sought 9 = .ok (.ifCond .ne 5, 3) := by decide +kernel
theorem dX12_sought_12 : decode cX12_sought 12 = .ok (.iconst (-1), 1) := by decide +kernel
theorem dX12_sought_13 : decode cX12_sought 13 = .ok (.ireturn, 1) := by decide +kernel
theorem dX12_sought_14 : decode cX12_sought 14 = .ok (.iload_n 1, 1) := by decide +kernel
theorem dX12_sought_15 : decode cX12_sought 15 = .ok (.i2l, 1) := by decide +kernel
theorem dX12_sought_16 : decode cX12_sought 16 = .ok (.lconst 0, 1) := by decide +kernel
theorem dX12_sought_17 : decode cX12_sought 17 = .ok (.aload_n 0, 1) := by decide +kernel
theorem dX12_sought_18 : decode cX12_sought 18 = .ok (.getfield 158, 3) := by decide +kernel
theorem dX12_sought_21 : decode cX12_sought 21 = .ok (.iconst 1, 1) := by decide +kernel
theorem dX12_sought_22 : decode cX12_sought 22 = .ok (.isub, 1) := by decide +kernel
theorem dX12_sought_23 : decode cX12_sought 23 = .ok (.i2l, 1) := by decide +kernel
theorem dX12_sought_24 : decode cX12_sought 24 = .ok (.invokestatic 166, 3) := by decide +kernel
theorem dX12_sought_27 : decode cX12_sought 27 = .ok (.ifCond .eq 16, 3) := by decide +kernel
theorem dX12_sought_30 : decode cX12_sought 30 = .ok (.aload_n 0, 1) := by decide +kernel
theorem dX12_sought_31 : decode cX12_sought 31 = .ok (.getfield 123, 3) := by decide +kernel
theorem dX12_sought_34 : decode cX12_sought 34 = .ok (.iconst 3, 1) := by decide +kernel
theorem dX12_sought_35 : decode cX12_sought 35 = .ok (.iload_n 1, 1) := by decide +kernel
theorem dX12_sought_36 : decode cX12_sought 36 = .ok (.imul, 1) := by decide +kernel
theorem dX12_sought_37 : decode cX12_sought 37 = .ok (.iload_n 2, 1) := by decide +kernel
theorem dX12_sought_38 : decode cX12_sought 38 = .ok (.iadd, 1) := by decide +kernel
theorem dX12_sought_39 : decode cX12_sought 39 = .ok (.iaload, 1) := by decide +kernel
theorem dX12_sought_40 : decode cX12_sought 40 = .ok (.goto 5, 3) := by decide +kernel
theorem dX12_sought_43 : decode cX12_sought 43 = .ok (.bipush (-9), 2) := by decide +kernel
theorem dX12_sought_45 : decode cX12_sought 45 = .ok (.ireturn, 1) := by decide +kernel
theorem dX12_line_0 : decode cX12_line 0 = .ok (.aload_n 0, 1) := by decide +kernel
theorem dX12_line_1 : decode cX12_line 1 = .ok (.iload_n 1, 1) := by decide +kernel
theorem dX12_line_2 : decode cX12_line 2 = .ok (.invokevirtual 180, 3) := by decide +kernel
theorem dX12_line_5 : decode cX12_line 5 = .ok (.ifCond .eq 21, 3) := by decide +kernel
theorem dX12_line_8 : decode cX12_line 8 = .ok (.iload_n 2, 1) := by decide +kernel
theorem dX12_line_9 : decode cX12_line 9 = .ok (.i2l, 1) := by decide +kernel
theorem dX12_line_10 : decode cX12_line 10 = .ok (.lconst 0, 1) := by decide +kernel
theorem dX12_line_11 : decode cX12_line 11 = .ok (.ldc2_w 279, 3) := by decide +kernel
theorem dX12_line_14 : decode cX12_line 14 = .ok (.invokestatic 166, 3) := by decide +kernel
theorem dX12_line_17 : decode cX12_line 17 = .ok (.ifCond .eq 9, 3) := by decide +kernel
theorem dX12_line_20 : decode cX12_line 20 = .ok (.iload_n 3, 1) := by decide +kernel
theorem dX12_line_21 : decode cX12_line 21 = .ok (.bipush 12, 2) := by decide +kernel
theorem dX12_line_23 : decode cX12_line 23 = .ok (.if_icmp .le 5, 3) := by decide +kernel
theorem dX12_line_26 : decode cX12_line 26 = .ok (.iconst (-1), 1) := by decide +kernel
theorem dX12_line_27 : decode cX12_line 27 = .ok (.ireturn, 1) := by decide +kernel
theorem dX12_line_28 : decode cX12_line 28 = .ok (.iload_n 3, 1) := by decide +kernel
theorem dX12_line_29 : decode cX12_line 29 = .ok (.ifCond .ge 9, 3) := by decide +kernel
theorem dX12_line_32 : decode cX12_line 32 = .ok (.aload_n 0, 1) := by decide +kernel
theorem dX12_line_33 : decode cX12_line 33 = .ok (.iconst 5, 1) := by decide +kernel
theorem dX12_line_34 : decode cX12_line 34 = .ok (.invokevirtual 233, 3) := by decide +kernel
theorem dX12_line_37 : decode cX12_line 37 = .ok (.ireturn, 1) := by decide +kernel
theorem dX12_line_38 : decode cX12_line 38 = .ok (.aload_n 0, 1) := by decide +kernel
theorem dX12_line_39 : decode cX12_line 39 = .ok (.getfield 136, 3) := by decide +kernel
theorem dX12_line_42 : decode cX12_line 42 = .ok (.iload_n 1, 1) := by decide +kernel
theorem dX12_line_43 : decode cX12_line 43 = .ok (.iconst 1, 1) := by decide +kernel
theorem dX12_line_44 : decode cX12_line 44 = .ok (.bastore, 1) := by decide +kernel
theorem dX12_line_45 : decode cX12_line 45 = .ok (.aload_n 0, 1) := by decide +kernel
theorem dX12_line_46 : decode cX12_line 46 = .ok (.getfield 126, 3) := by decide +kernel
theorem dX12_line_49 : decode cX12_line 49 = .ok (.iload_n 1, 1) := by decide +kernel
theorem dX12_line_50 : decode cX12_line 50 = .ok (.iload_n 2, 1) := by decide +kernel
theorem dX12_line_51 : decode cX12_line 51 = .ok (.iastore, 1) := by decide +kernel
theorem dX12_line_52 : decode cX12_line 52 = .ok (.aload_n 0, 1) := by decide +kernel
theorem dX12_line_53 : decode cX12_line 53 = .ok (.getfield 129, 3) := by decide +kernel
theorem dX12_line_56 : decode cX12_line 56 = .ok (.iload_n 1, 1) := by decide +kernel
theorem dX12_line_57 : decode cX12_line 57 = .ok (.iload_n 3, 1) := by decide +kernel
theorem dX12_line_58 : decode cX12_line 58 = .ok (.iastore, 1) := by decide +kernel
theorem dX12_line_59 : decode cX12_line 59 = .ok (.iconst 0, 1) := by decide +kernel
theorem dX12_line_60 : decode cX12_line 60 = .ok (.istore 4, 2) := by decide +kernel
theorem dX12_line_62 : decode cX12_line 62 = .ok (.iload 4, 2) := by decide +kernel
theorem dX12_line_64 : decode cX12_line 64 = .ok (.bipush 12, 2) := by decide +kernel
theorem dX12_line_66 : decode cX12_line 66 = .ok (.if_icmp .ge 22, 3) := by decide +kernel
theorem dX12_line_69 : decode cX12_line 69 = .ok (.aload_n 0, 1) := by decide +kernel
theorem dX12_line_70 : decode cX12_line 70 = .ok (.getfield 132, 3) := by decide +kernel
theorem dX12_line_73 : decode cX12_line 73 = .ok (.bipush 12, 2) := by decide +kernel
theorem dX12_line_75 : decode cX12_line 75 = .ok (.iload_n 1, 1) := by decide +kernel
theorem dX12_line_76 : decode cX12_line 76 = .ok (.imul, 1) := by decide +kernel
theorem dX12_line_77 : decode cX12_line 77 = .ok (.iload 4, 2) := by decide +kernel
theorem dX12_line_79 : decode cX12_line 79 = .ok (.iadd, 1) := by decide +kernel
theorem dX12_line_80 : decode cX12_line 80 = .ok (.lconst 0, 1) := by decide +kernel
theorem dX12_line_81 : decode cX12_line 81 = .ok (.lastore, 1) := by decide +kernel
theorem dX12_line_82 : decode cX12_line 82 = .ok (.iinc 4 1, 3) := by decide +kernel
theorem dX12_line_85 : decode cX12_line 85 = .ok (.goto (-23), 3) := by decide +kernel
theorem dX12_line_88 : decode cX12_line 88 = .ok (.iload_n 3, 1) := by decide +kernel
theorem dX12_line_89 : decode cX12_line 89 = .ok (.ireturn, 1) := by decide +kernel
theorem dX12_lacks_0 : decode cX12_lacks 0 = .ok (.aload_n 0, 1) := by decide +kernel
theorem dX12_lacks_1 : decode cX12_lacks 1 = .ok (.getfield 136, 3) := by decide +kernel
theorem dX12_lacks_4 : decode cX12_lacks 4 = .ok (.iload_n 1, 1) := by decide +kernel
theorem dX12_lacks_5 : decode cX12_lacks 5 = .ok (.baload, 1) := by decide +kernel
theorem dX12_lacks_6 : decode cX12_lacks 6 = .ok (.ifCond .ne 7, 3) := by decide +kernel
theorem dX12_lacks_9 : decode cX12_lacks 9 = .ok (.iconst 1, 1) := by decide +kernel
theorem dX12_lacks_10 : decode cX12_lacks 10 = .ok (.goto 40, 3) := by decide +kernel
theorem dX12_lacks_13 : decode cX12_lacks 13 = .ok (.aload_n 0, 1) := by decide +kernel
theorem dX12_lacks_14 : decode cX12_lacks 14 = .ok (.getfield 126, 3) := by decide +kernel
theorem dX12_lacks_17 : decode cX12_lacks 17 = .ok (.iload_n 1, 1) := by decide +kernel
theorem dX12_lacks_18 : decode cX12_lacks 18 = .ok (.iaload, 1) := by decide +kernel
theorem dX12_lacks_19 : decode cX12_lacks 19 = .ok (.iload_n 2, 1) := by decide +kernel
theorem dX12_lacks_20 : decode cX12_lacks 20 = .ok (.if_icmp .eq 7, 3) := by decide +kernel
theorem dX12_lacks_23 : decode cX12_lacks 23 = .ok (.iconst 3, 1) := by decide +kernel
theorem dX12_lacks_24 : decode cX12_lacks 24 = .ok (.goto 26, 3) := by decide +kernel
theorem dX12_lacks_27 : decode cX12_lacks 27 = .ok (.iload_n 3, 1) := by decide +kernel
theorem dX12_lacks_28 : decode cX12_lacks 28 = .ok (.i2l, 1) := by decide +kernel
theorem dX12_lacks_29 : decode cX12_lacks 29 = .ok (.lconst 0, 1) := by decide +kernel
theorem dX12_lacks_30 : decode cX12_lacks 30 = .ok (.aload_n 0, 1) := by decide +kernel
theorem dX12_lacks_31 : decode cX12_lacks 31 = .ok (.getfield 129, 3) := by decide +kernel
theorem dX12_lacks_34 : decode cX12_lacks 34 = .ok (.iload_n 1, 1) := by decide +kernel
theorem dX12_lacks_35 : decode cX12_lacks 35 = .ok (.iaload, 1) := by decide +kernel
theorem dX12_lacks_36 : decode cX12_lacks 36 = .ok (.iconst 1, 1) := by decide +kernel
theorem dX12_lacks_37 : decode cX12_lacks 37 = .ok (.isub, 1) := by decide +kernel
theorem dX12_lacks_38 : decode cX12_lacks 38 = .ok (.i2l, 1) := by decide +kernel
theorem dX12_lacks_39 : decode cX12_lacks 39 = .ok (.invokestatic 166, 3) := by decide +kernel
theorem dX12_lacks_42 : decode cX12_lacks 42 = .ok (.ifCond .ne 7, 3) := by decide +kernel
theorem dX12_lacks_45 : decode cX12_lacks 45 = .ok (.iconst 2, 1) := by decide +kernel
theorem dX12_lacks_46 : decode cX12_lacks 46 = .ok (.goto 4, 3) := by decide +kernel
theorem dX12_lacks_49 : decode cX12_lacks 49 = .ok (.iconst 0, 1) := by decide +kernel
theorem dX12_lacks_50 : decode cX12_lacks 50 = .ok (.ireturn, 1) := by decide +kernel
theorem dX12_cut_0 : decode cX12_cut 0 = .ok (.iload_n 0, 1) := by decide +kernel
theorem dX12_cut_1 : decode cX12_cut 1 = .ok (.ifCond .ne 8, 3) := by decide +kernel
theorem dX12_cut_4 : decode cX12_cut 4 = .ok (.lload_n 1, 1) := by decide +kernel
theorem dX12_cut_5 : decode cX12_cut 5 = .ok (.l2i, 1) := by decide +kernel
theorem dX12_cut_6 : decode cX12_cut 6 = .ok (.i2b, 1) := by decide +kernel
theorem dX12_cut_7 : decode cX12_cut 7 = .ok (.i2l, 1) := by decide +kernel
theorem dX12_cut_8 : decode cX12_cut 8 = .ok (.lreturn, 1) := by decide +kernel
theorem dX12_cut_9 : decode cX12_cut 9 = .ok (.iload_n 0, 1) := by decide +kernel
theorem dX12_cut_10 : decode cX12_cut 10 = .ok (.iconst 1, 1) := by decide +kernel
theorem dX12_cut_11 : decode cX12_cut 11 = .ok (.if_icmp .ne 7, 3) := by decide +kernel
theorem dX12_cut_14 : decode cX12_cut 14 = .ok (.lload_n 1, 1) := by decide +kernel
theorem dX12_cut_15 : decode cX12_cut 15 = .ok (.l2i, 1) := by decide +kernel
theorem dX12_cut_16 : decode cX12_cut 16 = .ok (.i2l, 1) := by decide +kernel
theorem dX12_cut_17 : decode cX12_cut 17 = .ok (.lreturn, 1) := by decide +kernel
theorem dX12_cut_18 : decode cX12_cut 18 = .ok (.iload_n 0, 1) := by decide +kernel
theorem dX12_cut_19 : decode cX12_cut 19 = .ok (.iconst 2, 1) := by decide +kernel
theorem dX12_cut_20 : decode cX12_cut 20 = .ok (.if_icmp .ne 26, 3) := by decide +kernel
theorem dX12_cut_23 : decode cX12_cut 23 = .ok (.lload_n 1, 1) := by decide +kernel
theorem dX12_cut_24 : decode cX12_cut 24 = .ok (.l2i, 1) := by decide +kernel
theorem dX12_cut_25 : decode cX12_cut 25 = .ok (.istore_n 3, 1) := by decide +kernel
theorem dX12_cut_26 : decode cX12_cut 26 = .ok (.iload_n 3, 1) := by decide +kernel
theorem dX12_cut_27 : decode cX12_cut 27 = .ok (.ldc_w 439, 3) := by decide +kernel
theorem dX12_cut_30 : decode cX12_cut 30 = .ok (.iand, 1) := by decide +kernel
theorem dX12_cut_31 : decode cX12_cut 31 = .ok (.ldc_w 440, 3) := by decide +kernel
theorem dX12_cut_34 : decode cX12_cut 34 = .ok (.if_icmp .le 9, 3) := by decide +kernel
theorem dX12_cut_37 : decode cX12_cut 37 = .ok (.ldc2_w 441, 3) := by decide +kernel
theorem dX12_cut_40 : decode cX12_cut 40 = .ok (.goto 5, 3) := by decide +kernel
theorem dX12_cut_43 : decode cX12_cut 43 = .ok (.iload_n 3, 1) := by decide +kernel
theorem dX12_cut_44 : decode cX12_cut 44 = .ok (.i2l, 1) := by decide +kernel
theorem dX12_cut_45 : decode cX12_cut 45 = .ok (.lreturn, 1) := by decide +kernel
theorem dX12_cut_46 : decode cX12_cut 46 = .ok (.lload_n 1, 1) := by decide +kernel
theorem dX12_cut_47 : decode cX12_cut 47 = .ok (.lreturn, 1) := by decide +kernel
theorem dX12_put_0 : decode cX12_put 0 = .ok (.aload_n 0, 1) := by decide +kernel
theorem dX12_put_1 : decode cX12_put 1 = .ok (.iload_n 1, 1) := by decide +kernel
theorem dX12_put_2 : decode cX12_put 2 = .ok (.invokevirtual 180, 3) := by decide +kernel
theorem dX12_put_5 : decode cX12_put 5 = .ok (.ifCond .eq 15, 3) := by decide +kernel
theorem dX12_put_8 : decode cX12_put 8 = .ok (.iload_n 2, 1) := by decide +kernel
theorem dX12_put_9 : decode cX12_put 9 = .ok (.i2l, 1) := by decide +kernel
theorem dX12_put_10 : decode cX12_put 10 = .ok (.lconst 0, 1) := by decide +kernel
theorem dX12_put_11 : decode cX12_put 11 = .ok (.ldc2_w 279, 3) := by decide +kernel
theorem dX12_put_14 : decode cX12_put 14 = .ok (.invokestatic 166, 3) := by decide +kernel
theorem dX12_put_17 : decode cX12_put 17 = .ok (.ifCond .ne 5, 3) := by decide +kernel
theorem dX12_put_20 : decode cX12_put 20 = .ok (.iconst (-1), 1) := by decide +kernel
theorem dX12_put_21 : decode cX12_put 21 = .ok (.ireturn, 1) := by decide +kernel
theorem dX12_put_22 : decode cX12_put 22 = .ok (.aload_n 0, 1) := by decide +kernel
theorem dX12_put_23 : decode cX12_put 23 = .ok (.iload_n 1, 1) := by decide +kernel
theorem dX12_put_24 : decode cX12_put 24 = .ok (.iload_n 2, 1) := by decide +kernel
theorem dX12_put_25 : decode cX12_put 25 = .ok (.iload_n 3, 1) := by decide +kernel
theorem dX12_put_26 : decode cX12_put 26 = .ok (.invokevirtual 443, 3) := by decide +kernel
theorem dX12_put_29 : decode cX12_put 29 = .ok (.istore 6, 2) := by decide +kernel
theorem dX12_put_31 : decode cX12_put 31 = .ok (.iload 6, 2) := by decide +kernel
theorem dX12_put_33 : decode cX12_put 33 = .ok (.ifCond .le 10, 3) := by decide +kernel
theorem dX12_put_36 : decode cX12_put 36 = .ok (.aload_n 0, 1) := by decide +kernel
theorem dX12_put_37 : decode cX12_put 37 = .ok (.iload 6, 2) := by decide +kernel
theorem dX12_put_39 : decode cX12_put 39 = .ok (.invokevirtual 233, 3) := by decide +kernel
theorem dX12_put_42 : decode cX12_put 42 = .ok (.ireturn, 1) := by decide +kernel
theorem dX12_put_43 : decode cX12_put 43 = .ok (.aload_n 0, 1) := by decide +kernel
theorem dX12_put_44 : decode cX12_put 44 = .ok (.getfield 132, 3) := by decide +kernel
theorem dX12_put_47 : decode cX12_put 47 = .ok (.bipush 12, 2) := by decide +kernel
theorem dX12_put_49 : decode cX12_put 49 = .ok (.iload_n 1, 1) := by decide +kernel
theorem dX12_put_50 : decode cX12_put 50 = .ok (.imul, 1) := by decide +kernel
theorem dX12_put_51 : decode cX12_put 51 = .ok (.iload_n 3, 1) := by decide +kernel
theorem dX12_put_52 : decode cX12_put 52 = .ok (.iadd, 1) := by decide +kernel
theorem dX12_put_53 : decode cX12_put 53 = .ok (.iload_n 2, 1) := by decide +kernel
theorem dX12_put_54 : decode cX12_put 54 = .ok (.lload 4, 2) := by decide +kernel
theorem dX12_put_56 : decode cX12_put 56 = .ok (.invokestatic 446, 3) := by decide +kernel
theorem dX12_put_59 : decode cX12_put 59 = .ok (.lastore, 1) := by decide +kernel
theorem dX12_put_60 : decode cX12_put 60 = .ok (.iconst 1, 1) := by decide +kernel
theorem dX12_put_61 : decode cX12_put 61 = .ok (.ireturn, 1) := by decide +kernel
theorem dX12_item_0 : decode cX12_item 0 = .ok (.aload_n 0, 1) := by decide +kernel
theorem dX12_item_1 : decode cX12_item 1 = .ok (.iload_n 1, 1) := by decide +kernel
theorem dX12_item_2 : decode cX12_item 2 = .ok (.invokevirtual 180, 3) := by decide +kernel
theorem dX12_item_5 : decode cX12_item 5 = .ok (.ifCond .eq 15, 3) := by decide +kernel
theorem dX12_item_8 : decode cX12_item 8 = .ok (.iload_n 2, 1) := by decide +kernel
theorem dX12_item_9 : decode cX12_item 9 = .ok (.i2l, 1) := by decide +kernel
theorem dX12_item_10 : decode cX12_item 10 = .ok (.lconst 0, 1) := by decide +kernel
theorem dX12_item_11 : decode cX12_item 11 = .ok (.ldc2_w 279, 3) := by decide +kernel
theorem dX12_item_14 : decode cX12_item 14 = .ok (.invokestatic 166, 3) := by decide +kernel
theorem dX12_item_17 : decode cX12_item 17 = .ok (.ifCond .ne 5, 3) := by decide +kernel
theorem dX12_item_20 : decode cX12_item 20 = .ok (.iconst (-1), 1) := by decide +kernel
theorem dX12_item_21 : decode cX12_item 21 = .ok (.ireturn, 1) := by decide +kernel
theorem dX12_item_22 : decode cX12_item 22 = .ok (.aload_n 0, 1) := by decide +kernel
theorem dX12_item_23 : decode cX12_item 23 = .ok (.iload_n 1, 1) := by decide +kernel
theorem dX12_item_24 : decode cX12_item 24 = .ok (.iload_n 2, 1) := by decide +kernel
theorem dX12_item_25 : decode cX12_item 25 = .ok (.iload_n 3, 1) := by decide +kernel
theorem dX12_item_26 : decode cX12_item 26 = .ok (.invokevirtual 443, 3) := by decide +kernel
theorem dX12_item_29 : decode cX12_item 29 = .ok (.istore 4, 2) := by decide +kernel
theorem dX12_item_31 : decode cX12_item 31 = .ok (.iload 4, 2) := by decide +kernel
theorem dX12_item_33 : decode cX12_item 33 = .ok (.ifCond .le 10, 3) := by decide +kernel
theorem dX12_item_36 : decode cX12_item 36 = .ok (.aload_n 0, 1) := by decide +kernel
theorem dX12_item_37 : decode cX12_item 37 = .ok (.iload 4, 2) := by decide +kernel
theorem dX12_item_39 : decode cX12_item 39 = .ok (.invokevirtual 233, 3) := by decide +kernel
theorem dX12_item_42 : decode cX12_item 42 = .ok (.ireturn, 1) := by decide +kernel
theorem dX12_item_43 : decode cX12_item 43 = .ok (.aload_n 0, 1) := by decide +kernel
theorem dX12_item_44 : decode cX12_item 44 = .ok (.aload_n 0, 1) := by decide +kernel
theorem dX12_item_45 : decode cX12_item 45 = .ok (.getfield 132, 3) := by decide +kernel
theorem dX12_item_48 : decode cX12_item 48 = .ok (.bipush 12, 2) := by decide +kernel
theorem dX12_item_50 : decode cX12_item 50 = .ok (.iload_n 1, 1) := by decide +kernel
theorem dX12_item_51 : decode cX12_item 51 = .ok (.imul, 1) := by decide +kernel
theorem dX12_item_52 : decode cX12_item 52 = .ok (.iload_n 3, 1) := by decide +kernel
theorem dX12_item_53 : decode cX12_item 53 = .ok (.iadd, 1) := by decide +kernel
theorem dX12_item_54 : decode cX12_item 54 = .ok (.laload, 1) := by decide +kernel
theorem dX12_item_55 : decode cX12_item 55 = .ok (.putfield 318, 3) := by decide +kernel
theorem dX12_item_58 : decode cX12_item 58 = .ok (.iconst 1, 1) := by decide +kernel
theorem dX12_item_59 : decode cX12_item 59 = .ok (.ireturn, 1) := by decide +kernel
theorem dX12_copy_0 : decode cX12_copy 0 = .ok (.aload_n 0, 1) := by decide +kernel
theorem dX12_copy_1 : decode cX12_copy 1 = .ok (.iload_n 1, 1) := by decide +kernel
theorem dX12_copy_2 : decode cX12_copy 2 = .ok (.invokevirtual 180, 3) := by decide +kernel
theorem dX12_copy_5 : decode cX12_copy 5 = .ok (.ifCond .eq 24, 3) := by decide +kernel
theorem dX12_copy_8 : decode cX12_copy 8 = .ok (.aload_n 0, 1) := by decide +kernel
theorem dX12_copy_9 : decode cX12_copy 9 = .ok (.iload 4, 2) := by decide +kernel
theorem dX12_copy_11 : decode cX12_copy 11 = .ok (.invokevirtual 180, 3) := by decide +kernel
theorem dX12_copy_14 : decode cX12_copy 14 = .ok (.ifCond .eq 15, 3) := by decide +kernel
theorem dX12_copy_17 : decode cX12_copy 17 = .ok (.iload_n 2, 1) := by decide +kernel
theorem dX12_copy_18 : decode cX12_copy 18 = .ok (.i2l, 1) := by decide +kernel
theorem dX12_copy_19 : decode cX12_copy 19 = .ok (.lconst 0, 1) := by decide +kernel
theorem dX12_copy_20 : decode cX12_copy 20 = .ok (.ldc2_w 279, 3) := by decide +kernel
theorem dX12_copy_23 : decode cX12_copy 23 = .ok (.invokestatic 166, 3) := by decide +kernel
theorem dX12_copy_26 : decode cX12_copy 26 = .ok (.ifCond .ne 5, 3) := by decide +kernel
theorem dX12_copy_29 : decode cX12_copy 29 = .ok (.iconst (-1), 1) := by decide +kernel
theorem dX12_copy_30 : decode cX12_copy 30 = .ok (.ireturn, 1) := by decide +kernel
theorem dX12_copy_31 : decode cX12_copy 31 = .ok (.aload_n 0, 1) := by decide +kernel
theorem dX12_copy_32 : decode cX12_copy 32 = .ok (.getfield 136, 3) := by decide +kernel
theorem dX12_copy_35 : decode cX12_copy 35 = .ok (.iload_n 1, 1) := by decide +kernel
theorem dX12_copy_36 : decode cX12_copy 36 = .ok (.baload, 1) := by decide +kernel
theorem dX12_copy_37 : decode cX12_copy 37 = .ok (.ifCond .eq 13, 3) := by decide +kernel
theorem dX12_copy_40 : decode cX12_copy 40 = .ok (.aload_n 0, 1) := by decide +kernel
theorem dX12_copy_41 : decode cX12_copy 41 = .ok (.getfield 126, 3) := by decide +kernel
theorem dX12_copy_44 : decode cX12_copy 44 = .ok (.iload_n 1, 1) := by decide +kernel
theorem dX12_copy_45 : decode cX12_copy 45 = .ok (.iaload, 1) := by decide +kernel
theorem dX12_copy_46 : decode cX12_copy 46 = .ok (.iload_n 2, 1) := by decide +kernel
theorem dX12_copy_47 : decode cX12_copy 47 = .ok (.if_icmp .ne 24, 3) := by decide +kernel
theorem dX12_copy_50 : decode cX12_copy 50 = .ok (.aload_n 0, 1) := by decide +kernel
theorem dX12_copy_51 : decode cX12_copy 51 = .ok (.getfield 136, 3) := by decide +kernel
theorem dX12_copy_54 : decode cX12_copy 54 = .ok (.iload 4, 2) := by decide +kernel
theorem dX12_copy_56 : decode cX12_copy 56 = .ok (.baload, 1) := by decide +kernel
theorem dX12_copy_57 : decode cX12_copy 57 = .ok (.ifCond .eq 20, 3) := by decide +kernel
theorem dX12_copy_60 : decode cX12_copy 60 = .ok (.aload_n 0, 1) := by decide +kernel
theorem dX12_copy_61 : decode cX12_copy 61 = .ok (.getfield 126, 3) := by decide +kernel
theorem dX12_copy_64 : decode cX12_copy 64 = .ok (.iload 4, 2) := by decide +kernel
theorem dX12_copy_66 : decode cX12_copy 66 = .ok (.iaload, 1) := by decide +kernel
theorem dX12_copy_67 : decode cX12_copy 67 = .ok (.iload_n 2, 1) := by decide +kernel
theorem dX12_copy_68 : decode cX12_copy 68 = .ok (.if_icmp .eq 9, 3) := by decide +kernel
theorem dX12_copy_71 : decode cX12_copy 71 = .ok (.aload_n 0, 1) := by decide +kernel
theorem dX12_copy_72 : decode cX12_copy 72 = .ok (.iconst 3, 1) := by decide +kernel
theorem dX12_copy_73 : decode cX12_copy 73 = .ok (.invokevirtual 233, 3) := by decide +kernel
theorem dX12_copy_76 : decode cX12_copy 76 = .ok (.ireturn, 1) := by decide +kernel
theorem dX12_copy_77 : decode cX12_copy 77 = .ok (.aload_n 0, 1) := by decide +kernel
theorem dX12_copy_78 : decode cX12_copy 78 = .ok (.getfield 136, 3) := by decide +kernel
theorem dX12_copy_81 : decode cX12_copy 81 = .ok (.iload_n 1, 1) := by decide +kernel
theorem dX12_copy_82 : decode cX12_copy 82 = .ok (.baload, 1) := by decide +kernel
theorem dX12_copy_83 : decode cX12_copy 83 = .ok (.ifCond .eq 13, 3) := by decide +kernel
theorem dX12_copy_86 : decode cX12_copy 86 = .ok (.aload_n 0, 1) := by decide +kernel
theorem dX12_copy_87 : decode cX12_copy 87 = .ok (.getfield 136, 3) := by decide +kernel
theorem dX12_copy_90 : decode cX12_copy 90 = .ok (.iload 4, 2) := by decide +kernel
theorem dX12_copy_92 : decode cX12_copy 92 = .ok (.baload, 1) := by decide +kernel
theorem dX12_copy_93 : decode cX12_copy 93 = .ok (.ifCond .ne 9, 3) := by decide +kernel
theorem dX12_copy_96 : decode cX12_copy 96 = .ok (.aload_n 0, 1) := by decide +kernel
theorem dX12_copy_97 : decode cX12_copy 97 = .ok (.iconst 1, 1) := by decide +kernel
theorem dX12_copy_98 : decode cX12_copy 98 = .ok (.invokevirtual 233, 3) := by decide +kernel
theorem dX12_copy_101 : decode cX12_copy 101 = .ok (.ireturn, 1) := by decide +kernel
theorem dX12_copy_102 : decode cX12_copy 102 = .ok (.iload_n 3, 1) := by decide +kernel
theorem dX12_copy_103 : decode cX12_copy 103 = .ok (.ifCond .lt 49, 3) := by decide +kernel
theorem dX12_copy_106 : decode cX12_copy 106 = .ok (.iload 5, 2) := by decide +kernel
theorem dX12_copy_108 : decode cX12_copy 108 = .ok (.ifCond .lt 44, 3) := by decide +kernel
theorem dX12_copy_111 : decode cX12_copy 111 = .ok (.iload 6, 2) := by decide +kernel
theorem dX12_copy_113 : decode cX12_copy 113 = .ok (.ifCond .lt 39, 3) := by decide +kernel
theorem dX12_copy_116 : decode cX12_copy 116 = .ok (.iload_n 3, 1) := by decide +kernel
theorem dX12_copy_117 : decode cX12_copy 117 = .ok (.i2l, 1) := by decide +kernel
theorem dX12_copy_118 : decode cX12_copy 118 = .ok (.iload 6, 2) := by decide +kernel
theorem dX12_copy_120 : decode cX12_copy 120 = .ok (.i2l, 1) := by decide +kernel
theorem dX12_copy_121 : decode cX12_copy 121 = .ok (.ladd, 1) := by decide +kernel
theorem dX12_copy_122 : decode cX12_copy 122 = .ok (.aload_n 0, 1) := by decide +kernel
theorem dX12_copy_123 : decode cX12_copy 123 = .ok (.getfield 129, 3) := by decide +kernel
theorem dX12_copy_126 : decode cX12_copy 126 = .ok (.iload_n 1, 1) := by decide +kernel
theorem dX12_copy_127 : decode cX12_copy 127 = .ok (.iaload, 1) := by decide +kernel
theorem dX12_copy_128 : decode cX12_copy 128 = .ok (.i2l, 1) := by decide +kernel
theorem dX12_copy_129 : decode cX12_copy 129 = .ok (.lcmp, 1) := by decide +kernel
theorem dX12_copy_130 : decode cX12_copy 130 = .ok (.ifCond .gt 22, 3) := by decide +kernel
theorem dX12_copy_133 : decode cX12_copy 133 = .ok (.iload 5, 2) := by decide +kernel
theorem dX12_copy_135 : decode cX12_copy 135 = .ok (.i2l, 1) := by decide +kernel
theorem dX12_copy_136 : decode cX12_copy 136 = .ok (.iload 6, 2) := by decide +kernel
theorem dX12_copy_138 : decode cX12_copy 138 = .ok (.i2l, 1) := by decide +kernel
theorem dX12_copy_139 : decode cX12_copy 139 = .ok (.ladd, 1) := by decide +kernel
theorem dX12_copy_140 : decode cX12_copy 140 = .ok (.aload_n 0, 1) := by decide +kernel
theorem dX12_copy_141 : decode cX12_copy 141 = .ok (.getfield 129, 3) := by decide +kernel
theorem dX12_copy_144 : decode cX12_copy 144 = .ok (.iload 4, 2) := by decide +kernel
theorem dX12_copy_146 : decode cX12_copy 146 = .ok (.iaload, 1) := by decide +kernel
theorem dX12_copy_147 : decode cX12_copy 147 = .ok (.i2l, 1) := by decide +kernel
theorem dX12_copy_148 : decode cX12_copy 148 = .ok (.lcmp, 1) := by decide +kernel
theorem dX12_copy_149 : decode cX12_copy 149 = .ok (.ifCond .le 9, 3) := by decide +kernel
theorem dX12_copy_152 : decode cX12_copy 152 = .ok (.aload_n 0, 1) := by decide +kernel
theorem dX12_copy_153 : decode cX12_copy 153 = .ok (.iconst 2, 1) := by decide +kernel
theorem dX12_copy_154 : decode cX12_copy 154 = .ok (.invokevirtual 233, 3) := by decide +kernel
theorem dX12_copy_157 : decode cX12_copy 157 = .ok (.ireturn, 1) := by decide +kernel
theorem dX12_copy_158 : decode cX12_copy 158 = .ok (.iconst 0, 1) := by decide +kernel
theorem dX12_copy_159 : decode cX12_copy 159 = .ok (.istore 7, 2) := by decide +kernel
theorem dX12_copy_161 : decode cX12_copy 161 = .ok (.iload 7, 2) := by decide +kernel
theorem dX12_copy_163 : decode cX12_copy 163 = .ok (.iload 6, 2) := by decide +kernel
theorem dX12_copy_165 : decode cX12_copy 165 = .ok (.if_icmp .ge 30, 3) := by decide +kernel
theorem dX12_copy_168 : decode cX12_copy 168 = .ok (.aload_n 0, 1) := by decide +kernel
theorem dX12_copy_169 : decode cX12_copy 169 = .ok (.getfield 148, 3) := by decide +kernel
theorem dX12_copy_172 : decode cX12_copy 172 = .ok (.iload 7, 2) := by decide +kernel
theorem dX12_copy_174 : decode cX12_copy 174 = .ok (.aload_n 0, 1) := by decide +kernel
theorem dX12_copy_175 : decode cX12_copy 175 = .ok (.getfield 132, 3) := by decide +kernel
theorem dX12_copy_178 : decode cX12_copy 178 = .ok (.bipush 12, 2) := by decide +kernel
theorem dX12_copy_180 : decode cX12_copy 180 = .ok (.iload_n 1, 1) := by decide +kernel
theorem dX12_copy_181 : decode cX12_copy 181 = .ok (.imul, 1) := by decide +kernel
theorem dX12_copy_182 : decode cX12_copy 182 = .ok (.iload_n 3, 1) := by decide +kernel
theorem dX12_copy_183 : decode cX12_copy 183 = .ok (.iadd, 1) := by decide +kernel
theorem dX12_copy_184 : decode cX12_copy 184 = .ok (.iload 7, 2) := by decide +kernel
theorem dX12_copy_186 : decode cX12_copy 186 = .ok (.iadd, 1) := by decide +kernel
theorem dX12_copy_187 : decode cX12_copy 187 = .ok (.laload, 1) := by decide +kernel
theorem dX12_copy_188 : decode cX12_copy 188 = .ok (.lastore, 1) := by decide +kernel
theorem dX12_copy_189 : decode cX12_copy 189 = .ok (.iinc 7 1, 3) := by decide +kernel
theorem dX12_copy_192 : decode cX12_copy 192 = .ok (.goto (-31), 3) := by decide +kernel
theorem dX12_copy_195 : decode cX12_copy 195 = .ok (.iconst 0, 1) := by decide +kernel
theorem dX12_copy_196 : decode cX12_copy 196 = .ok (.istore 7, 2) := by decide +kernel
theorem dX12_copy_198 : decode cX12_copy 198 = .ok (.iload 7, 2) := by decide +kernel
theorem dX12_copy_200 : decode cX12_copy 200 = .ok (.iload 6, 2) := by decide +kernel
theorem dX12_copy_202 : decode cX12_copy 202 = .ok (.if_icmp .ge 32, 3) := by decide +kernel
theorem dX12_copy_205 : decode cX12_copy 205 = .ok (.aload_n 0, 1) := by decide +kernel
theorem dX12_copy_206 : decode cX12_copy 206 = .ok (.getfield 132, 3) := by decide +kernel
theorem dX12_copy_209 : decode cX12_copy 209 = .ok (.bipush 12, 2) := by decide +kernel
theorem dX12_copy_211 : decode cX12_copy 211 = .ok (.iload 4, 2) := by decide +kernel
theorem dX12_copy_213 : decode cX12_copy 213 = .ok (.imul, 1) := by decide +kernel
theorem dX12_copy_214 : decode cX12_copy 214 = .ok (.iload 5, 2) := by decide +kernel
theorem dX12_copy_216 : decode cX12_copy 216 = .ok (.iadd, 1) := by decide +kernel
theorem dX12_copy_217 : decode cX12_copy 217 = .ok (.iload 7, 2) := by decide +kernel
theorem dX12_copy_219 : decode cX12_copy 219 = .ok (.iadd, 1) := by decide +kernel
theorem dX12_copy_220 : decode cX12_copy 220 = .ok (.aload_n 0, 1) := by decide +kernel
theorem dX12_copy_221 : decode cX12_copy 221 = .ok (.getfield 148, 3) := by decide +kernel
theorem dX12_copy_224 : decode cX12_copy 224 = .ok (.iload 7, 2) := by decide +kernel
theorem dX12_copy_226 : decode cX12_copy 226 = .ok (.laload, 1) := by decide +kernel
theorem dX12_copy_227 : decode cX12_copy 227 = .ok (.lastore, 1) := by decide +kernel
theorem dX12_copy_228 : decode cX12_copy 228 = .ok (.iinc 7 1, 3) := by decide +kernel
theorem dX12_copy_231 : decode cX12_copy 231 = .ok (.goto (-33), 3) := by decide +kernel
theorem dX12_copy_234 : decode cX12_copy 234 = .ok (.iconst 1, 1) := by decide +kernel
theorem dX12_copy_235 : decode cX12_copy 235 = .ok (.ireturn, 1) := by decide +kernel
theorem dX12_cast_0 : decode cX12_cast 0 = .ok (.iload_n 1, 1) := by decide +kernel
theorem dX12_cast_1 : decode cX12_cast 1 = .ok (.i2l, 1) := by decide +kernel
theorem dX12_cast_2 : decode cX12_cast 2 = .ok (.lconst 1, 1) := by decide +kernel
theorem dX12_cast_3 : decode cX12_cast 3 = .ok (.ldc2_w 170, 3) := by decide +kernel
theorem dX12_cast_6 : decode cX12_cast 6 = .ok (.invokestatic 166, 3) := by decide +kernel
theorem dX12_cast_9 : decode cX12_cast 9 = .ok (.ifCond .eq 9, 3) := by decide +kernel
theorem dX12_cast_12 : decode cX12_cast 12 = .ok (.iload_n 2, 1) := by decide +kernel
theorem dX12_cast_13 : decode cX12_cast 13 = .ok (.bipush 12, 2) := by decide +kernel
theorem dX12_cast_15 : decode cX12_cast 15 = .ok (.if_icmp .le 5, 3) := by decide +kernel
theorem dX12_cast_18 : decode cX12_cast 18 = .ok (.iconst (-1), 1) := by decide +kernel
theorem dX12_cast_19 : decode cX12_cast 19 = .ok (.ireturn, 1) := by decide +kernel
theorem dX12_cast_20 : decode cX12_cast 20 = .ok (.aload_n 0, 1) := by decide +kernel
theorem dX12_cast_21 : decode cX12_cast 21 = .ok (.getfield 450, 3) := by decide +kernel
theorem dX12_cast_24 : decode cX12_cast 24 = .ok (.bipush 10, 2) := by decide +kernel
theorem dX12_cast_26 : decode cX12_cast 26 = .ok (.if_icmp .ne 6, 3) := by decide +kernel
theorem dX12_cast_29 : decode cX12_cast 29 = .ok (.bipush (-2), 2) := by decide +kernel
theorem dX12_cast_31 : decode cX12_cast 31 = .ok (.ireturn, 1) := by decide +kernel
theorem dX12_cast_32 : decode cX12_cast 32 = .ok (.iload_n 2, 1) := by decide +kernel
theorem dX12_cast_33 : decode cX12_cast 33 = .ok (.ifCond .ge 9, 3) := by decide +kernel
theorem dX12_cast_36 : decode cX12_cast 36 = .ok (.aload_n 0, 1) := by decide +kernel
theorem dX12_cast_37 : decode cX12_cast 37 = .ok (.iconst 5, 1) := by decide +kernel
theorem dX12_cast_38 : decode cX12_cast 38 = .ok (.invokevirtual 233, 3) := by decide +kernel
theorem dX12_cast_41 : decode cX12_cast 41 = .ok (.ireturn, 1) := by decide +kernel
theorem dX12_cast_42 : decode cX12_cast 42 = .ok (.aload_n 0, 1) := by decide +kernel
theorem dX12_cast_43 : decode cX12_cast 43 = .ok (.getfield 139, 3) := by decide +kernel
theorem dX12_cast_46 : decode cX12_cast 46 = .ok (.aload_n 0, 1) := by decide +kernel
theorem dX12_cast_47 : decode cX12_cast 47 = .ok (.getfield 450, 3) := by decide +kernel
theorem dX12_cast_50 : decode cX12_cast 50 = .ok (.iload_n 1, 1) := by decide +kernel
theorem dX12_cast_51 : decode cX12_cast 51 = .ok (.iastore, 1) := by decide +kernel
theorem dX12_cast_52 : decode cX12_cast 52 = .ok (.aload_n 0, 1) := by decide +kernel
theorem dX12_cast_53 : decode cX12_cast 53 = .ok (.getfield 142, 3) := by decide +kernel
theorem dX12_cast_56 : decode cX12_cast 56 = .ok (.aload_n 0, 1) := by decide +kernel
theorem dX12_cast_57 : decode cX12_cast 57 = .ok (.getfield 450, 3) := by decide +kernel
theorem dX12_cast_60 : decode cX12_cast 60 = .ok (.iload_n 2, 1) := by decide +kernel
theorem dX12_cast_61 : decode cX12_cast 61 = .ok (.iastore, 1) := by decide +kernel
theorem dX12_cast_62 : decode cX12_cast 62 = .ok (.iconst 0, 1) := by decide +kernel
theorem dX12_cast_63 : decode cX12_cast 63 = .ok (.istore_n 3, 1) := by decide +kernel
theorem dX12_cast_64 : decode cX12_cast 64 = .ok (.iload_n 3, 1) := by decide +kernel
theorem dX12_cast_65 : decode cX12_cast 65 = .ok (.bipush 12, 2) := by decide +kernel
theorem dX12_cast_67 : decode cX12_cast 67 = .ok (.if_icmp .ge 25, 3) := by decide +kernel
theorem dX12_cast_70 : decode cX12_cast 70 = .ok (.aload_n 0, 1) := by decide +kernel
theorem dX12_cast_71 : decode cX12_cast 71 = .ok (.getfield 145, 3) := by decide +kernel
theorem dX12_cast_74 : decode cX12_cast 74 = .ok (.bipush 12, 2) := by decide +kernel
theorem dX12_cast_76 : decode cX12_cast 76 = .ok (.aload_n 0, 1) := by decide +kernel
theorem dX12_cast_77 : decode cX12_cast 77 = .ok (.getfield 450, 3) := by decide +kernel
theorem dX12_cast_80 : decode cX12_cast 80 = .ok (.imul, 1) := by decide +kernel
theorem dX12_cast_81 : decode cX12_cast 81 = .ok (.iload_n 3, 1) := by decide +kernel
theorem dX12_cast_82 : decode cX12_cast 82 = .ok (.iadd, 1) := by decide +kernel
theorem dX12_cast_83 : decode cX12_cast 83 = .ok (.bipush (-9), 2) := by decide +kernel
theorem dX12_cast_85 : decode cX12_cast 85 = .ok (.iastore, 1) := by decide +kernel
theorem dX12_cast_86 : decode cX12_cast 86 = .ok (.iinc 3 1, 3) := by decide +kernel
theorem dX12_cast_89 : decode cX12_cast 89 = .ok (.goto (-25), 3) := by decide +kernel
theorem dX12_cast_92 : decode cX12_cast 92 = .ok (.aload_n 0, 1) := by decide +kernel
theorem dX12_cast_93 : decode cX12_cast 93 = .ok (.dup, 1) := by decide +kernel
theorem dX12_cast_94 : decode cX12_cast 94 = .ok (.getfield 450, 3) := by decide +kernel
theorem dX12_cast_97 : decode cX12_cast 97 = .ok (.iconst 1, 1) := by decide +kernel
theorem dX12_cast_98 : decode cX12_cast 98 = .ok (.iadd, 1) := by decide +kernel
theorem dX12_cast_99 : decode cX12_cast 99 = .ok (.putfield 450, 3) := by decide +kernel
theorem dX12_cast_102 : decode cX12_cast 102 = .ok (.aload_n 0, 1) := by decide +kernel
theorem dX12_cast_103 : decode cX12_cast 103 = .ok (.getfield 450, 3) := by decide +kernel
theorem dX12_cast_106 : decode cX12_cast 106 = .ok (.iconst 1, 1) := by decide +kernel
theorem dX12_cast_107 : decode cX12_cast 107 = .ok (.isub, 1) := by decide +kernel
theorem dX12_cast_108 : decode cX12_cast 108 = .ok (.ireturn, 1) := by decide +kernel
theorem dX12_role_0 : decode cX12_role 0 = .ok (.iload_n 1, 1) := by decide +kernel
theorem dX12_role_1 : decode cX12_role 1 = .ok (.i2l, 1) := by decide +kernel
theorem dX12_role_2 : decode cX12_role 2 = .ok (.lconst 0, 1) := by decide +kernel
theorem dX12_role_3 : decode cX12_role 3 = .ok (.aload_n 0, 1) := by decide +kernel
theorem dX12_role_4 : decode cX12_role 4 = .ok (.getfield 450, 3) := by decide +kernel
theorem dX12_role_7 : decode cX12_role 7 = .ok (.iconst 1, 1) := by decide +kernel
theorem dX12_role_8 : decode cX12_role 8 = .ok (.isub, 1) := by decide +kernel
theorem dX12_role_9 : decode cX12_role 9 = .ok (.i2l, 1) := by decide +kernel
theorem dX12_role_10 : decode cX12_role 10 = .ok (.invokestatic 166, 3) := by decide +kernel
theorem dX12_role_13 : decode cX12_role 13 = .ok (.ifCond .eq 17, 3) := by decide +kernel
theorem dX12_role_16 : decode cX12_role 16 = .ok (.iload_n 3, 1) := by decide +kernel
theorem dX12_role_17 : decode cX12_role 17 = .ok (.bipush (-9), 2) := by decide +kernel
theorem dX12_role_19 : decode cX12_role 19 = .ok (.if_icmp .eq 13, 3) := by decide +kernel
theorem dX12_role_22 : decode cX12_role 22 = .ok (.aload_n 0, 1) := by decide +kernel
theorem dX12_role_23 : decode cX12_role 23 = .ok (.iload_n 3, 1) := by decide +kernel
theorem dX12_role_24 : decode cX12_role 24 = .ok (.invokevirtual 180, 3) := by decide +kernel
theorem dX12_role_27 : decode cX12_role 27 = .ok (.ifCond .ne 5, 3) := by decide +kernel
theorem dX12_role_30 : decode cX12_role 30 = .ok (.iconst (-1), 1) := by decide +kernel
theorem dX12_role_31 : decode cX12_role 31 = .ok (.ireturn, 1) := by decide +kernel
theorem dX12_role_32 : decode cX12_role 32 = .ok (.iload_n 3, 1) := by decide +kernel
theorem dX12_role_33 : decode cX12_role 33 = .ok (.bipush (-9), 2) := by decide +kernel
theorem dX12_role_35 : decode cX12_role 35 = .ok (.if_icmp .eq 18, 3) := by decide +kernel
theorem dX12_role_38 : decode cX12_role 38 = .ok (.aload_n 0, 1) := by decide +kernel
theorem dX12_role_39 : decode cX12_role 39 = .ok (.iload_n 3, 1) := by decide +kernel
theorem dX12_role_40 : decode cX12_role 40 = .ok (.iconst 0, 1) := by decide +kernel
theorem dX12_role_41 : decode cX12_role 41 = .ok (.invokevirtual 184, 3) := by decide +kernel
theorem dX12_role_44 : decode cX12_role 44 = .ok (.ifCond .eq 9, 3) := by decide +kernel
theorem dX12_role_47 : decode cX12_role 47 = .ok (.aload_n 0, 1) := by decide +kernel
theorem dX12_role_48 : decode cX12_role 48 = .ok (.iconst 3, 1) := by decide +kernel
theorem dX12_role_49 : decode cX12_role 49 = .ok (.invokevirtual 233, 3) := by decide +kernel
theorem dX12_role_52 : decode cX12_role 52 = .ok (.ireturn, 1) := by decide +kernel
theorem dX12_role_53 : decode cX12_role 53 = .ok (.iload_n 2, 1) := by decide +kernel
theorem dX12_role_54 : decode cX12_role 54 = .ok (.i2l, 1) := by decide +kernel
theorem dX12_role_55 : decode cX12_role 55 = .ok (.lconst 0, 1) := by decide +kernel
theorem dX12_role_56 : decode cX12_role 56 = .ok (.aload_n 0, 1) := by decide +kernel
theorem dX12_role_57 : decode cX12_role 57 = .ok (.getfield 142, 3) := by decide +kernel
theorem dX12_role_60 : decode cX12_role 60 = .ok (.iload_n 1, 1) := by decide +kernel
theorem dX12_role_61 : decode cX12_role 61 = .ok (.iaload, 1) := by decide +kernel
theorem dX12_role_62 : decode cX12_role 62 = .ok (.iconst 1, 1) := by decide +kernel
theorem dX12_role_63 : decode cX12_role 63 = .ok (.isub, 1) := by decide +kernel
theorem dX12_role_64 : decode cX12_role 64 = .ok (.i2l, 1) := by decide +kernel
theorem dX12_role_65 : decode cX12_role 65 = .ok (.invokestatic 166, 3) := by decide +kernel
theorem dX12_role_68 : decode cX12_role 68 = .ok (.ifCond .ne 9, 3) := by decide +kernel
theorem dX12_role_71 : decode cX12_role 71 = .ok (.aload_n 0, 1) := by decide +kernel
theorem dX12_role_72 : decode cX12_role 72 = .ok (.iconst 2, 1) := by decide +kernel
theorem dX12_role_73 : decode cX12_role 73 = .ok (.invokevirtual 233, 3) := by decide +kernel
theorem dX12_role_76 : decode cX12_role 76 = .ok (.ireturn, 1) := by decide +kernel
theorem dX12_role_77 : decode cX12_role 77 = .ok (.iload_n 3, 1) := by decide +kernel
theorem dX12_role_78 : decode cX12_role 78 = .ok (.bipush (-9), 2) := by decide +kernel
theorem dX12_role_80 : decode cX12_role 80 = .ok (.if_icmp .eq 24, 3) := by decide +kernel
theorem dX12_role_83 : decode cX12_role 83 = .ok (.aload_n 0, 1) := by decide +kernel
theorem dX12_role_84 : decode cX12_role 84 = .ok (.iload_n 3, 1) := by decide +kernel
theorem dX12_role_85 : decode cX12_role 85 = .ok (.aload_n 0, 1) := by decide +kernel
theorem dX12_role_86 : decode cX12_role 86 = .ok (.getfield 139, 3) := by decide +kernel
theorem dX12_role_89 : decode cX12_role 89 = .ok (.iload_n 1, 1) := by decide +kernel
theorem dX12_role_90 : decode cX12_role 90 = .ok (.iaload, 1) := by decide +kernel
theorem dX12_role_91 : decode cX12_role 91 = .ok (.invokevirtual 184, 3) := by decide +kernel
theorem dX12_role_94 : decode cX12_role 94 = .ok (.ifCond .ne 10, 3) := by decide +kernel
theorem dX12_role_97 : decode cX12_role 97 = .ok (.aload_n 0, 1) := by decide +kernel
theorem dX12_role_98 : decode cX12_role 98 = .ok (.bipush 6, 2) := by decide +kernel
theorem dX12_role_100 : decode cX12_role 100 = .ok (.invokevirtual 233, 3) := by decide +kernel
theorem dX12_role_103 : decode cX12_role 103 = .ok (.ireturn, 1) := by decide +kernel
theorem dX12_role_104 : decode cX12_role 104 = .ok (.aload_n 0, 1) := by decide +kernel
theorem dX12_role_105 : decode cX12_role 105 = .ok (.getfield 145, 3) := by decide +kernel
theorem dX12_role_108 : decode cX12_role 108 = .ok (.bipush 12, 2) := by decide +kernel
theorem dX12_role_110 : decode cX12_role 110 = .ok (.iload_n 1, 1) := by decide +kernel
theorem dX12_role_111 : decode cX12_role 111 = .ok (.imul, 1) := by decide +kernel
theorem dX12_role_112 : decode cX12_role 112 = .ok (.iload_n 2, 1) := by decide +kernel
theorem dX12_role_113 : decode cX12_role 113 = .ok (.iadd, 1) := by decide +kernel
theorem dX12_role_114 : decode cX12_role 114 = .ok (.iload_n 3, 1) := by decide +kernel
theorem dX12_role_115 : decode cX12_role 115 = .ok (.iastore, 1) := by decide +kernel
theorem dX12_role_116 : decode cX12_role 116 = .ok (.iconst 1, 1) := by decide +kernel
theorem dX12_role_117 : decode cX12_role 117 = .ok (.ireturn, 1) := by decide +kernel
theorem dX12_who_0 : decode cX12_who 0 = .ok (.iload_n 1, 1) := by decide +kernel
theorem dX12_who_1 : decode cX12_who 1 = .ok (.i2l, 1) := by decide +kernel
theorem dX12_who_2 : decode cX12_who 2 = .ok (.lconst 0, 1) := by decide +kernel
theorem dX12_who_3 : decode cX12_who 3 = .ok (.aload_n 0, 1) := by decide +kernel
theorem dX12_who_4 : decode cX12_who 4 = .ok (.getfield 450, 3) := by decide +kernel
theorem dX12_who_7 : decode cX12_who 7 = .ok (.iconst 1, 1) := by decide +kernel
theorem dX12_who_8 : decode cX12_who 8 = .ok (.isub, 1) := by decide +kernel
theorem dX12_who_9 : decode cX12_who 9 = .ok (.i2l, 1) := by decide +kernel
theorem dX12_who_10 : decode cX12_who 10 = .ok (.invokestatic 166, 3) := by decide +kernel
theorem dX12_who_13 : decode cX12_who 13 = .ok (.ifCond .ne 5, 3) := by decide +kernel
theorem dX12_who_16 : decode cX12_who 16 = .ok (.iconst (-1), 1) := by decide +kernel
theorem dX12_who_17 : decode cX12_who 17 = .ok (.ireturn, 1) := by decide +kernel
theorem dX12_who_18 : decode cX12_who 18 = .ok (.iload_n 2, 1) := by decide +kernel
theorem dX12_who_19 : decode cX12_who 19 = .ok (.i2l, 1) := by decide +kernel
theorem dX12_who_20 : decode cX12_who 20 = .ok (.lconst 0, 1) := by decide +kernel
theorem dX12_who_21 : decode cX12_who 21 = .ok (.aload_n 0, 1) := by decide +kernel
theorem dX12_who_22 : decode cX12_who 22 = .ok (.getfield 142, 3) := by decide +kernel
theorem dX12_who_25 : decode cX12_who 25 = .ok (.iload_n 1, 1) := by decide +kernel
theorem dX12_who_26 : decode cX12_who 26 = .ok (.iaload, 1) := by decide +kernel
theorem dX12_who_27 : decode cX12_who 27 = .ok (.iconst 1, 1) := by decide +kernel
theorem dX12_who_28 : decode cX12_who 28 = .ok (.isub, 1) := by decide +kernel
theorem dX12_who_29 : decode cX12_who 29 = .ok (.i2l, 1) := by decide +kernel
theorem dX12_who_30 : decode cX12_who 30 = .ok (.invokestatic 166, 3) := by decide +kernel
theorem dX12_who_33 : decode cX12_who 33 = .ok (.ifCond .ne 9, 3) := by decide +kernel
theorem dX12_who_36 : decode cX12_who 36 = .ok (.aload_n 0, 1) := by decide +kernel
theorem dX12_who_37 : decode cX12_who 37 = .ok (.iconst 2, 1) := by decide +kernel
theorem dX12_who_38 : decode cX12_who 38 = .ok (.invokevirtual 233, 3) := by decide +kernel
theorem dX12_who_41 : decode cX12_who 41 = .ok (.ireturn, 1) := by decide +kernel
theorem dX12_who_42 : decode cX12_who 42 = .ok (.aload_n 0, 1) := by decide +kernel
theorem dX12_who_43 : decode cX12_who 43 = .ok (.getfield 145, 3) := by decide +kernel
theorem dX12_who_46 : decode cX12_who 46 = .ok (.bipush 12, 2) := by decide +kernel
theorem dX12_who_48 : decode cX12_who 48 = .ok (.iload_n 1, 1) := by decide +kernel
theorem dX12_who_49 : decode cX12_who 49 = .ok (.imul, 1) := by decide +kernel
theorem dX12_who_50 : decode cX12_who 50 = .ok (.iload_n 2, 1) := by decide +kernel
theorem dX12_who_51 : decode cX12_who 51 = .ok (.iadd, 1) := by decide +kernel
theorem dX12_who_52 : decode cX12_who 52 = .ok (.iaload, 1) := by decide +kernel
theorem dX12_who_53 : decode cX12_who 53 = .ok (.bipush (-9), 2) := by decide +kernel
theorem dX12_who_55 : decode cX12_who 55 = .ok (.if_icmp .ne 11, 3) := by decide +kernel
theorem dX12_who_58 : decode cX12_who 58 = .ok (.aload_n 0, 1) := by decide +kernel
theorem dX12_who_59 : decode cX12_who 59 = .ok (.iconst 1, 1) := by decide +kernel
theorem dX12_who_60 : decode cX12_who 60 = .ok (.invokevirtual 233, 3) := by decide +kernel
theorem dX12_who_63 : decode cX12_who 63 = .ok (.goto 14, 3) := by decide +kernel
theorem dX12_who_66 : decode cX12_who 66 = .ok (.aload_n 0, 1) := by decide +kernel
theorem dX12_who_67 : decode cX12_who 67 = .ok (.getfield 145, 3) := by decide +kernel
theorem dX12_who_70 : decode cX12_who 70 = .ok (.bipush 12, 2) := by decide +kernel
theorem dX12_who_72 : decode cX12_who 72 = .ok (.iload_n 1, 1) := by decide +kernel
theorem dX12_who_73 : decode cX12_who 73 = .ok (.imul, 1) := by decide +kernel
theorem dX12_who_74 : decode cX12_who 74 = .ok (.iload_n 2, 1) := by decide +kernel
theorem dX12_who_75 : decode cX12_who 75 = .ok (.iadd, 1) := by decide +kernel
theorem dX12_who_76 : decode cX12_who 76 = .ok (.iaload, 1) := by decide +kernel
theorem dX12_who_77 : decode cX12_who 77 = .ok (.ireturn, 1) := by decide +kernel
theorem dX12_count_0 : decode cX12_count 0 = .ok (.iload_n 1, 1) := by decide +kernel
theorem dX12_count_1 : decode cX12_count 1 = .ok (.tableswitch 87 0 7 #[47, 52, 57, 62, 67, 72, 77, 82], 47) := by decide +kernel
theorem dX12_count_48 : decode cX12_count 48 = .ok (.aload_n 0, 1) := by decide +kernel
theorem dX12_count_49 : decode cX12_count 49 = .ok (.getfield 151, 3) := by decide +kernel
theorem dX12_count_52 : decode cX12_count 52 = .ok (.ireturn, 1) := by decide +kernel
theorem dX12_count_53 : decode cX12_count 53 = .ok (.aload_n 0, 1) := by decide +kernel
theorem dX12_count_54 : decode cX12_count 54 = .ok (.getfield 177, 3) := by decide +kernel
theorem dX12_count_57 : decode cX12_count 57 = .ok (.ireturn, 1) := by decide +kernel
theorem dX12_count_58 : decode cX12_count 58 = .ok (.aload_n 0, 1) := by decide +kernel
theorem dX12_count_59 : decode cX12_count 59 = .ok (.invokevirtual 248, 3) := by decide +kernel
theorem dX12_count_62 : decode cX12_count 62 = .ok (.ireturn, 1) := by decide +kernel
theorem dX12_count_63 : decode cX12_count 63 = .ok (.aload_n 0, 1) := by decide +kernel
theorem dX12_count_64 : decode cX12_count 64 = .ok (.getfield 202, 3) := by decide +kernel
theorem dX12_count_67 : decode cX12_count 67 = .ok (.ireturn, 1) := by decide +kernel
theorem dX12_count_68 : decode cX12_count 68 = .ok (.aload_n 0, 1) := by decide +kernel
theorem dX12_count_69 : decode cX12_count 69 = .ok (.getfield 450, 3) := by decide +kernel
theorem dX12_count_72 : decode cX12_count 72 = .ok (.ireturn, 1) := by decide +kernel
theorem dX12_count_73 : decode cX12_count 73 = .ok (.aload_n 0, 1) := by decide +kernel
theorem dX12_count_74 : decode cX12_count 74 = .ok (.getfield 291, 3) := by decide +kernel
theorem dX12_count_77 : decode cX12_count 77 = .ok (.ireturn, 1) := by decide +kernel
theorem dX12_count_78 : decode cX12_count 78 = .ok (.aload_n 0, 1) := by decide +kernel
theorem dX12_count_79 : decode cX12_count 79 = .ok (.getfield 155, 3) := by decide +kernel
theorem dX12_count_82 : decode cX12_count 82 = .ok (.ireturn, 1) := by decide +kernel
theorem dX12_count_83 : decode cX12_count 83 = .ok (.aload_n 0, 1) := by decide +kernel
theorem dX12_count_84 : decode cX12_count 84 = .ok (.getfield 158, 3) := by decide +kernel
theorem dX12_count_87 : decode cX12_count 87 = .ok (.ireturn, 1) := by decide +kernel
theorem dX12_count_88 : decode cX12_count 88 = .ok (.iconst (-1), 1) := by decide +kernel
theorem dX12_count_89 : decode cX12_count 89 = .ok (.ireturn, 1) := by decide +kernel
theorem dX12_digest_0 : decode cX12_digest 0 = .ok (.ldc2_w 453, 3) := by decide +kernel
theorem dX12_digest_3 : decode cX12_digest 3 = .ok (.lstore_n 1, 1) := by decide +kernel
theorem dX12_digest_4 : decode cX12_digest 4 = .ok (.iconst 0, 1) := by decide +kernel
theorem dX12_digest_5 : decode cX12_digest 5 = .ok (.istore_n 3, 1) := by decide +kernel
theorem dX12_digest_6 : decode cX12_digest 6 = .ok (.iload_n 3, 1) := by decide +kernel
theorem dX12_digest_7 : decode cX12_digest 7 = .ok (.aload_n 0, 1) := by decide +kernel
theorem dX12_digest_8 : decode cX12_digest 8 = .ok (.getfield 151, 3) := by decide +kernel
theorem dX12_digest_11 : decode cX12_digest 11 = .ok (.if_icmp .ge 59, 3) := by decide +kernel
theorem dX12_digest_14 : decode cX12_digest 14 = .ok (.ldc2_w 455, 3) := by decide +kernel
theorem dX12_digest_17 : decode cX12_digest 17 = .ok (.lload_n 1, 1) := by decide +kernel
theorem dX12_digest_18 : decode cX12_digest 18 = .ok (.lmul, 1) := by decide +kernel
theorem dX12_digest_19 : decode cX12_digest 19 = .ok (.aload_n 0, 1) := by decide +kernel
theorem dX12_digest_20 : decode cX12_digest 20 = .ok (.getfield 13, 3) := by decide +kernel
theorem dX12_digest_23 : decode cX12_digest 23 = .ok (.iload_n 3, 1) := by decide +kernel
theorem dX12_digest_24 : decode cX12_digest 24 = .ok (.iaload, 1) := by decide +kernel
theorem dX12_digest_25 : decode cX12_digest 25 = .ok (.i2l, 1) := by decide +kernel
theorem dX12_digest_26 : decode cX12_digest 26 = .ok (.ladd, 1) := by decide +kernel
theorem dX12_digest_27 : decode cX12_digest 27 = .ok (.lstore_n 1, 1) := by decide +kernel
theorem dX12_digest_28 : decode cX12_digest 28 = .ok (.iconst 0, 1) := by decide +kernel
theorem dX12_digest_29 : decode cX12_digest 29 = .ok (.istore 4, 2) := by decide +kernel
theorem dX12_digest_31 : decode cX12_digest 31 = .ok (.iload 4, 2) := by decide +kernel
theorem dX12_digest_33 : decode cX12_digest 33 = .ok (.bipush 6, 2) := by decide +kernel
theorem dX12_digest_35 : decode cX12_digest 35 = .ok (.if_icmp .ge 29, 3) := by decide +kernel
theorem dX12_digest_38 : decode cX12_digest 38 = .ok (.ldc2_w 455, 3) := by decide +kernel
theorem dX12_digest_41 : decode cX12_digest 41 = .ok (.lload_n 1, 1) := by decide +kernel
theorem dX12_digest_42 : decode cX12_digest 42 = .ok (.lmul, 1) := by decide +kernel
theorem dX12_digest_43 : decode cX12_digest 43 = .ok (.aload_n 0, 1) := by decide +kernel
theorem dX12_digest_44 : decode cX12_digest 44 = .ok (.getfield 16, 3) := by decide +kernel
theorem dX12_digest_47 : decode cX12_digest 47 = .ok (.bipush 6, 2) := by decide +kernel
theorem dX12_digest_49 : decode cX12_digest 49 = .ok (.iload_n 3, 1) := by decide +kernel
theorem dX12_digest_50 : decode cX12_digest 50 = .ok (.imul, 1) := by decide +kernel
theorem dX12_digest_51 : decode cX12_digest 51 = .ok (.iload 4, 2) := by decide +kernel
theorem dX12_digest_53 : decode cX12_digest 53 = .ok (.iadd, 1) := by decide +kernel
theorem dX12_digest_54 : decode cX12_digest 54 = .ok (.iaload, 1) := by decide +kernel
theorem dX12_digest_55 : decode cX12_digest 55 = .ok (.i2l, 1) := by decide +kernel
theorem dX12_digest_56 : decode cX12_digest 56 = .ok (.ladd, 1) := by decide +kernel
theorem dX12_digest_57 : decode cX12_digest 57 = .ok (.lstore_n 1, 1) := by decide +kernel
theorem dX12_digest_58 : decode cX12_digest 58 = .ok (.iinc 4 1, 3) := by decide +kernel
theorem dX12_digest_61 : decode cX12_digest 61 = .ok (.goto (-30), 3) := by decide +kernel
theorem dX12_digest_64 : decode cX12_digest 64 = .ok (.iinc 3 1, 3) := by decide +kernel
theorem dX12_digest_67 : decode cX12_digest 67 = .ok (.goto (-61), 3) := by decide +kernel
theorem dX12_digest_70 : decode cX12_digest 70 = .ok (.aload_n 0, 1) := by decide +kernel
theorem dX12_digest_71 : decode cX12_digest 71 = .ok (.getfield 155, 3) := by decide +kernel
theorem dX12_digest_74 : decode cX12_digest 74 = .ok (.bipush (-9), 2) := by decide +kernel
theorem dX12_digest_76 : decode cX12_digest 76 = .ok (.if_icmp .eq 11, 3) := by decide +kernel
theorem dX12_digest_79 : decode cX12_digest 79 = .ok (.aload_n 0, 1) := by decide +kernel
theorem dX12_digest_80 : decode cX12_digest 80 = .ok (.invokevirtual 392, 3) := by decide +kernel
theorem dX12_digest_83 : decode cX12_digest 83 = .ok (.aload_n 0, 1) := by decide +kernel
theorem dX12_digest_84 : decode cX12_digest 84 = .ok (.invokevirtual 395, 3) := by decide +kernel
theorem dX12_digest_87 : decode cX12_digest 87 = .ok (.iconst 0, 1) := by decide +kernel
theorem dX12_digest_88 : decode cX12_digest 88 = .ok (.istore_n 3, 1) := by decide +kernel
theorem dX12_digest_89 : decode cX12_digest 89 = .ok (.iload_n 3, 1) := by decide +kernel
theorem dX12_digest_90 : decode cX12_digest 90 = .ok (.aload_n 0, 1) := by decide +kernel
theorem dX12_digest_91 : decode cX12_digest 91 = .ok (.getfield 177, 3) := by decide +kernel
theorem dX12_digest_94 : decode cX12_digest 94 = .ok (.if_icmp .ge 134, 3) := by decide +kernel
theorem dX12_digest_97 : decode cX12_digest 97 = .ok (.ldc2_w 455, 3) := by decide +kernel
theorem dX12_digest_100 : decode cX12_digest 100 = .ok (.ldc2_w 455, 3) := by decide +kernel
theorem dX12_digest_103 : decode cX12_digest 103 = .ok (.lload_n 1, 1) := by decide +kernel
theorem dX12_digest_104 : decode cX12_digest 104 = .ok (.lmul, 1) := by decide +kernel
theorem dX12_digest_105 : decode cX12_digest 105 = .ok (.aload_n 0, 1) := by decide +kernel
theorem dX12_digest_106 : decode cX12_digest 106 = .ok (.getfield 19, 3) := by decide +kernel
theorem dX12_digest_109 : decode cX12_digest 109 = .ok (.iload_n 3, 1) := by decide +kernel
theorem dX12_digest_110 : decode cX12_digest 110 = .ok (.iaload, 1) := by decide +kernel
theorem dX12_digest_111 : decode cX12_digest 111 = .ok (.i2l, 1) := by decide +kernel
theorem dX12_digest_112 : decode cX12_digest 112 = .ok (.ladd, 1) := by decide +kernel
theorem dX12_digest_113 : decode cX12_digest 113 = .ok (.lmul, 1) := by decide +kernel
theorem dX12_digest_114 : decode cX12_digest 114 = .ok (.aload_n 0, 1) := by decide +kernel
theorem dX12_digest_115 : decode cX12_digest 115 = .ok (.getfield 22, 3) := by decide +kernel
theorem dX12_digest_118 : decode cX12_digest 118 = .ok (.iload_n 3, 1) := by decide +kernel
theorem dX12_digest_119 : decode cX12_digest 119 = .ok (.iaload, 1) := by decide +kernel
theorem dX12_digest_120 : decode cX12_digest 120 = .ok (.i2l, 1) := by decide +kernel
theorem dX12_digest_121 : decode cX12_digest 121 = .ok (.ladd, 1) := by decide +kernel
theorem dX12_digest_122 : decode cX12_digest 122 = .ok (.lstore_n 1, 1) := by decide +kernel
theorem dX12_digest_123 : decode cX12_digest 123 = .ok (.aload_n 0, 1) := by decide +kernel
theorem dX12_digest_124 : decode cX12_digest 124 = .ok (.iload_n 3, 1) := by decide +kernel
theorem dX12_digest_125 : decode cX12_digest 125 = .ok (.invokevirtual 208, 3) := by decide +kernel
theorem dX12_digest_128 : decode cX12_digest 128 = .ok (.istore 4, 2) := by decide +kernel
theorem dX12_digest_130 : decode cX12_digest 130 = .ok (.ldc2_w 455, 3) := by decide +kernel
theorem dX12_digest_133 : decode cX12_digest 133 = .ok (.ldc2_w 455, 3) := by decide +kernel
theorem dX12_digest_136 : decode cX12_digest 136 = .ok (.lload_n 1, 1) := by decide +kernel
theorem dX12_digest_137 : decode cX12_digest 137 = .ok (.lmul, 1) := by decide +kernel
theorem dX12_digest_138 : decode cX12_digest 138 = .ok (.iload 4, 2) := by decide +kernel
theorem dX12_digest_140 : decode cX12_digest 140 = .ok (.bipush (-9), 2) := by decide +kernel
theorem dX12_digest_142 : decode cX12_digest 142 = .ok (.if_icmp .ne 8, 3) := by decide +kernel
theorem dX12_digest_145 : decode cX12_digest 145 = .ok (.bipush (-9), 2) := by decide +kernel
theorem dX12_digest_147 : decode cX12_digest 147 = .ok (.goto 10, 3) := by decide +kernel
theorem dX12_digest_150 : decode cX12_digest 150 = .ok (.aload_n 0, 1) := by decide +kernel
theorem dX12_digest_151 : decode cX12_digest 151 = .ok (.getfield 25, 3) := by decide +kernel
theorem dX12_digest_154 : decode cX12_digest 154 = .ok (.iload 4, 2) := by decide +kernel
theorem dX12_digest_156 : decode cX12_digest 156 = .ok (.iaload, 1) := by decide +kernel
theorem dX12_digest_157 : decode cX12_digest 157 = .ok (.i2l, 1) := by decide +kernel
theorem dX12_digest_158 : decode cX12_digest 158 = .ok (.ladd, 1) := by decide +kernel
theorem dX12_digest_159 : decode cX12_digest 159 = .ok (.lmul, 1) := by decide +kernel
theorem dX12_digest_160 : decode cX12_digest 160 = .ok (.iload 4, 2) := by decide +kernel
theorem dX12_digest_162 : decode cX12_digest 162 = .ok (.bipush (-9), 2) := by decide +kernel
theorem dX12_digest_164 : decode cX12_digest 164 = .ok (.if_icmp .ne 8, 3) := by decide +kernel
theorem dX12_digest_167 : decode cX12_digest 167 = .ok (.bipush (-9), 2) := by decide +kernel
theorem dX12_digest_169 : decode cX12_digest 169 = .ok (.goto 10, 3) := by decide +kernel
theorem dX12_digest_172 : decode cX12_digest 172 = .ok (.aload_n 0, 1) := by decide +kernel
theorem dX12_digest_173 : decode cX12_digest 173 = .ok (.getfield 31, 3) := by decide +kernel
theorem dX12_digest_176 : decode cX12_digest 176 = .ok (.iload 4, 2) := by decide +kernel
theorem dX12_digest_178 : decode cX12_digest 178 = .ok (.iaload, 1) := by decide +kernel
theorem dX12_digest_179 : decode cX12_digest 179 = .ok (.i2l, 1) := by decide +kernel
theorem dX12_digest_180 : decode cX12_digest 180 = .ok (.ladd, 1) := by decide +kernel
theorem dX12_digest_181 : decode cX12_digest 181 = .ok (.lstore_n 1, 1) := by decide +kernel
theorem dX12_digest_182 : decode cX12_digest 182 = .ok (.iconst 0, 1) := by decide +kernel
theorem dX12_digest_183 : decode cX12_digest 183 = .ok (.istore 5, 2) := by decide +kernel
theorem dX12_digest_185 : decode cX12_digest 185 = .ok (.iload 5, 2) := by decide +kernel
theorem dX12_digest_187 : decode cX12_digest 187 = .ok (.bipush 6, 2) := by decide +kernel
theorem dX12_digest_189 : decode cX12_digest 189 = .ok (.if_icmp .ge 33, 3) := by decide +kernel
theorem dX12_digest_192 : decode cX12_digest 192 = .ok (.aload_n 0, 1) := by decide +kernel
theorem dX12_digest_193 : decode cX12_digest 193 = .ok (.getfield 155, 3) := by decide +kernel
theorem dX12_digest_196 : decode cX12_digest 196 = .ok (.bipush (-9), 2) := by decide +kernel
theorem dX12_digest_198 : decode cX12_digest 198 = .ok (.if_icmp .eq 24, 3) := by decide +kernel
theorem dX12_digest_201 : decode cX12_digest 201 = .ok (.ldc2_w 455, 3) := by decide +kernel
theorem dX12_digest_204 : decode cX12_digest 204 = .ok (.lload_n 1, 1) := by decide +kernel
theorem dX12_digest_205 : decode cX12_digest 205 = .ok (.lmul, 1) := by decide +kernel
theorem dX12_digest_206 : decode cX12_digest 206 = .ok (.aload_n 0, 1) := by decide +kernel
theorem dX12_digest_207 : decode cX12_digest 207 = .ok (.iload_n 3, 1) := by decide +kernel
theorem dX12_digest_208 : decode cX12_digest 208 = .ok (.iload 5, 2) := by decide +kernel
theorem dX12_digest_210 : decode cX12_digest 210 = .ok (.invokevirtual 407, 3) := by decide +kernel
theorem dX12_digest_213 : decode cX12_digest 213 = .ok (.i2l, 1) := by decide +kernel
theorem dX12_digest_214 : decode cX12_digest 214 = .ok (.ladd, 1) := by decide +kernel
theorem dX12_digest_215 : decode cX12_digest 215 = .ok (.lstore_n 1, 1) := by decide +kernel
theorem dX12_digest_216 : decode cX12_digest 216 = .ok (.iinc 5 1, 3) := by decide +kernel
theorem dX12_digest_219 : decode cX12_digest 219 = .ok (.goto (-34), 3) := by decide +kernel
theorem dX12_digest_222 : decode cX12_digest 222 = .ok (.iinc 3 1, 3) := by decide +kernel
theorem dX12_digest_225 : decode cX12_digest 225 = .ok (.goto (-136), 3) := by decide +kernel
theorem dX12_digest_228 : decode cX12_digest 228 = .ok (.iconst 0, 1) := by decide +kernel
theorem dX12_digest_229 : decode cX12_digest 229 = .ok (.istore_n 3, 1) := by decide +kernel
theorem dX12_digest_230 : decode cX12_digest 230 = .ok (.iload_n 3, 1) := by decide +kernel
theorem dX12_digest_231 : decode cX12_digest 231 = .ok (.aload_n 0, 1) := by decide +kernel
theorem dX12_digest_232 : decode cX12_digest 232 = .ok (.getfield 202, 3) := by decide +kernel
theorem dX12_digest_235 : decode cX12_digest 235 = .ok (.if_icmp .ge 39, 3) := by decide +kernel
theorem dX12_digest_238 : decode cX12_digest 238 = .ok (.iconst 0, 1) := by decide +kernel
theorem dX12_digest_239 : decode cX12_digest 239 = .ok (.istore 4, 2) := by decide +kernel
theorem dX12_digest_241 : decode cX12_digest 241 = .ok (.iload 4, 2) := by decide +kernel
theorem dX12_digest_243 : decode cX12_digest 243 = .ok (.iconst 5, 1) := by decide +kernel
theorem dX12_digest_244 : decode cX12_digest 244 = .ok (.if_icmp .ge 24, 3) := by decide +kernel
theorem dX12_digest_247 : decode cX12_digest 247 = .ok (.ldc2_w 455, 3) := by decide +kernel
theorem dX12_digest_250 : decode cX12_digest 250 = .ok (.lload_n 1, 1) := by decide +kernel
theorem dX12_digest_251 : decode cX12_digest 251 = .ok (.lmul, 1) := by decide +kernel
theorem dX12_digest_252 : decode cX12_digest 252 = .ok (.aload_n 0, 1) := by decide +kernel
theorem dX12_digest_253 : decode cX12_digest 253 = .ok (.iload_n 3, 1) := by decide +kernel
theorem dX12_digest_254 : decode cX12_digest 254 = .ok (.iload 4, 2) := by decide +kernel
theorem dX12_digest_256 : decode cX12_digest 256 = .ok (.invokevirtual 457, 3) := by decide +kernel
theorem dX12_digest_259 : decode cX12_digest 259 = .ok (.i2l, 1) := by decide +kernel
theorem dX12_digest_260 : decode cX12_digest 260 = .ok (.ladd, 1) := by decide +kernel
theorem dX12_digest_261 : decode cX12_digest 261 = .ok (.lstore_n 1, 1) := by decide +kernel
theorem dX12_digest_262 : decode cX12_digest 262 = .ok (.iinc 4 1, 3) := by decide +kernel
theorem dX12_digest_265 : decode cX12_digest 265 = .ok (.goto (-24), 3) := by decide +kernel
theorem dX12_digest_268 : decode cX12_digest 268 = .ok (.iinc 3 1, 3) := by decide +kernel
theorem dX12_digest_271 : decode cX12_digest 271 = .ok (.goto (-41), 3) := by decide +kernel
theorem dX12_digest_274 : decode cX12_digest 274 = .ok (.lload_n 1, 1) := by decide +kernel
theorem dX12_digest_275 : decode cX12_digest 275 = .ok (.lreturn, 1) := by decide +kernel
theorem dJ7_fill_53178_0 : decode cJ7_fill_53178 0 = .ok (.iconst 0, 1) := by decide +kernel
theorem dJ7_fill_53178_1 : decode cJ7_fill_53178 1 = .ok (.istore_n 2, 1) := by decide +kernel
theorem dJ7_fill_53178_2 : decode cJ7_fill_53178 2 = .ok (.aload_n 0, 1) := by decide +kernel
theorem dJ7_fill_53178_3 : decode cJ7_fill_53178 3 = .ok (.arraylength, 1) := by decide +kernel
theorem dJ7_fill_53178_4 : decode cJ7_fill_53178 4 = .ok (.istore_n 3, 1) := by decide +kernel
theorem dJ7_fill_53178_5 : decode cJ7_fill_53178 5 = .ok (.iload_n 2, 1) := by decide +kernel
theorem dJ7_fill_53178_6 : decode cJ7_fill_53178 6 = .ok (.iload_n 3, 1) := by decide +kernel
theorem dJ7_fill_53178_7 : decode cJ7_fill_53178 7 = .ok (.if_icmp .ge 13, 3) := by decide +kernel
theorem dJ7_fill_53178_10 : decode cJ7_fill_53178 10 = .ok (.aload_n 0, 1) := by decide +kernel
theorem dJ7_fill_53178_11 : decode cJ7_fill_53178 11 = .ok (.iload_n 2, 1) := by decide +kernel
theorem dJ7_fill_53178_12 : decode cJ7_fill_53178 12 = .ok (.iload_n 1, 1) := by decide +kernel
theorem dJ7_fill_53178_13 : decode cJ7_fill_53178 13 = .ok (.iastore, 1) := by decide +kernel
theorem dJ7_fill_53178_14 : decode cJ7_fill_53178 14 = .ok (.iinc 2 1, 3) := by decide +kernel
theorem dJ7_fill_53178_17 : decode cJ7_fill_53178 17 = .ok (.goto (-12), 3) := by decide +kernel
theorem dJ7_fill_53178_20 : decode cJ7_fill_53178 20 = .ok (.return_, 1) := by decide +kernel
theorem dL_law_0 : decode cL_law 0 = .ok (.new 7, 3) := by decide +kernel
theorem dL_law_3 : decode cL_law 3 = .ok (.dup, 1) := by decide +kernel
theorem dL_law_4 : decode cL_law 4 = .ok (.invokespecial 9, 3) := by decide +kernel
theorem dL_law_7 : decode cL_law 7 = .ok (.astore_n 1, 1) := by decide +kernel
theorem dL_law_8 : decode cL_law 8 = .ok (.new 10, 3) := by decide +kernel
theorem dL_law_11 : decode cL_law 11 = .ok (.dup, 1) := by decide +kernel
theorem dL_law_12 : decode cL_law 12 = .ok (.invokespecial 12, 3) := by decide +kernel
theorem dL_law_15 : decode cL_law 15 = .ok (.astore_n 2, 1) := by decide +kernel
theorem dL_law_16 : decode cL_law 16 = .ok (.iconst 0, 1) := by decide +kernel
theorem dL_law_17 : decode cL_law 17 = .ok (.istore_n 3, 1) := by decide +kernel
theorem dL_law_18 : decode cL_law 18 = .ok (.iload_n 3, 1) := by decide +kernel
theorem dL_law_19 : decode cL_law 19 = .ok (.aload_n 0, 1) := by decide +kernel
theorem dL_law_20 : decode cL_law 20 = .ok (.arraylength, 1) := by decide +kernel
theorem dL_law_21 : decode cL_law 21 = .ok (.bipush 7, 2) := by decide +kernel
theorem dL_law_23 : decode cL_law 23 = .ok (.isub, 1) := by decide +kernel
theorem dL_law_24 : decode cL_law 24 = .ok (.if_icmp .gt 1443, 3) := by decide +kernel
theorem dL_law_27 : decode cL_law 27 = .ok (.aload_n 0, 1) := by decide +kernel
theorem dL_law_28 : decode cL_law 28 = .ok (.iload_n 3, 1) := by decide +kernel
theorem dL_law_29 : decode cL_law 29 = .ok (.iaload, 1) := by decide +kernel
theorem dL_law_30 : decode cL_law 30 = .ok (.bipush 63, 2) := by decide +kernel
theorem dL_law_32 : decode cL_law 32 = .ok (.iand, 1) := by decide +kernel
theorem dL_law_33 : decode cL_law 33 = .ok (.tableswitch 1428 0 36 #[163, 186, 229, 262, 295, 318, 331, 354, 387, 440, 463, 486, 519, 552, 595, 628, 651, 710, 769, 792, 835, 848, 881, 914, 927, 970, 1003, 1046, 1129, 1172, 1247, 1280, 1323, 1356, 1379, 1392, 1415], 163) := by decide +kernel
theorem dL_law_196 : decode cL_law 196 = .ok (.aload_n 1, 1) := by decide +kernel
theorem dL_law_197 : decode cL_law 197 = .ok (.aload_n 0, 1) := by decide +kernel
theorem dL_law_198 : decode cL_law 198 = .ok (.iload_n 3, 1) := by decide +kernel
theorem dL_law_199 : decode cL_law 199 = .ok (.iconst 1, 1) := by decide +kernel
theorem dL_law_200 : decode cL_law 200 = .ok (.iadd, 1) := by decide +kernel
theorem dL_law_201 : decode cL_law 201 = .ok (.iaload, 1) := by decide +kernel
theorem dL_law_202 : decode cL_law 202 = .ok (.invokevirtual 13, 3) := by decide +kernel
theorem dL_law_205 : decode cL_law 205 = .ok (.pop, 1) := by decide +kernel
theorem dL_law_206 : decode cL_law 206 = .ok (.aload_n 2, 1) := by decide +kernel
theorem dL_law_207 : decode cL_law 207 = .ok (.aload_n 0, 1) := by decide +kernel
theorem dL_law_208 : decode cL_law 208 = .ok (.iload_n 3, 1) := by decide +kernel
theorem dL_law_209 : decode cL_law 209 = .ok (.iconst 1, 1) := by decide +kernel
theorem dL_law_210 : decode cL_law 210 = .ok (.iadd, 1) := by decide +kernel
theorem dL_law_211 : decode cL_law 211 = .ok (.iaload, 1) := by decide +kernel
theorem dL_law_212 : decode cL_law 212 = .ok (.invokevirtual 17, 3) := by decide +kernel
theorem dL_law_215 : decode cL_law 215 = .ok (.pop, 1) := by decide +kernel
theorem dL_law_216 : decode cL_law 216 = .ok (.goto 1245, 3) := by decide +kernel
theorem dL_law_219 : decode cL_law 219 = .ok (.aload_n 1, 1) := by decide +kernel
theorem dL_law_220 : decode cL_law 220 = .ok (.aload_n 0, 1) := by decide +kernel
theorem dL_law_221 : decode cL_law 221 = .ok (.iload_n 3, 1) := by decide +kernel
theorem dL_law_222 : decode cL_law 222 = .ok (.iconst 1, 1) := by decide +kernel
theorem dL_law_223 : decode cL_law 223 = .ok (.iadd, 1) := by decide +kernel
theorem dL_law_224 : decode cL_law 224 = .ok (.iaload, 1) := by decide +kernel
theorem dL_law_225 : decode cL_law 225 = .ok (.aload_n 0, 1) := by decide +kernel
theorem dL_law_226 : decode cL_law 226 = .ok (.iload_n 3, 1) := by decide +kernel
theorem dL_law_227 : decode cL_law 227 = .ok (.iconst 2, 1) := by decide +kernel
theorem dL_law_228 : decode cL_law 228 = .ok (.iadd, 1) := by decide +kernel
theorem dL_law_229 : decode cL_law 229 = .ok (.iaload, 1) := by decide +kernel
theorem dL_law_230 : decode cL_law 230 = .ok (.aload_n 0, 1) := by decide +kernel
theorem dL_law_231 : decode cL_law 231 = .ok (.iload_n 3, 1) := by decide +kernel
theorem dL_law_232 : decode cL_law 232 = .ok (.iconst 3, 1) := by decide +kernel
theorem dL_law_233 : decode cL_law 233 = .ok (.iadd, 1) := by decide +kernel
theorem dL_law_234 : decode cL_law 234 = .ok (.iaload, 1) := by decide +kernel
theorem dL_law_235 : decode cL_law 235 = .ok (.invokevirtual 18, 3) := by decide +kernel
theorem dL_law_238 : decode cL_law 238 = .ok (.pop, 1) := by decide +kernel
theorem dL_law_239 : decode cL_law 239 = .ok (.aload_n 2, 1) := by decide +kernel
theorem dL_law_240 : decode cL_law 240 = .ok (.aload_n 0, 1) := by decide +kernel
theorem dL_law_241 : decode cL_law 241 = .ok (.iload_n 3, 1) := by decide +kernel
theorem dL_law_242 : decode cL_law 242 = .ok (.iconst 1, 1) := by decide +kernel
theorem dL_law_243 : decode cL_law 243 = .ok (.iadd, 1) := by decide +kernel
theorem dL_law_244 : decode cL_law 244 = .ok (.iaload, 1) := by decide +kernel
theorem dL_law_245 : decode cL_law 245 = .ok (.aload_n 0, 1) := by decide +kernel
theorem dL_law_246 : decode cL_law 246 = .ok (.iload_n 3, 1) := by decide +kernel
theorem dL_law_247 : decode cL_law 247 = .ok (.iconst 2, 1) := by decide +kernel
theorem dL_law_248 : decode cL_law 248 = .ok (.iadd, 1) := by decide +kernel
theorem dL_law_249 : decode cL_law 249 = .ok (.iaload, 1) := by decide +kernel
theorem dL_law_250 : decode cL_law 250 = .ok (.aload_n 0, 1) := by decide +kernel
theorem dL_law_251 : decode cL_law 251 = .ok (.iload_n 3, 1) := by decide +kernel
theorem dL_law_252 : decode cL_law 252 = .ok (.iconst 3, 1) := by decide +kernel
theorem dL_law_253 : decode cL_law 253 = .ok (.iadd, 1) := by decide +kernel
theorem dL_law_254 : decode cL_law 254 = .ok (.iaload, 1) := by decide +kernel
theorem dL_law_255 : decode cL_law 255 = .ok (.invokevirtual 22, 3) := by decide +kernel
theorem dL_law_258 : decode cL_law 258 = .ok (.pop, 1) := by decide +kernel
theorem dL_law_259 : decode cL_law 259 = .ok (.goto 1202, 3) := by decide +kernel
theorem dL_law_262 : decode cL_law 262 = .ok (.aload_n 1, 1) := by decide +kernel
theorem dL_law_263 : decode cL_law 263 = .ok (.aload_n 0, 1) := by decide +kernel
theorem dL_law_264 : decode cL_law 264 = .ok (.iload_n 3, 1) := by decide +kernel
theorem dL_law_265 : decode cL_law 265 = .ok (.iconst 1, 1) := by decide +kernel
theorem dL_law_266 : decode cL_law 266 = .ok (.iadd, 1) := by decide +kernel
theorem dL_law_267 : decode cL_law 267 = .ok (.iaload, 1) := by decide +kernel
theorem dL_law_268 : decode cL_law 268 = .ok (.aload_n 0, 1) := by decide +kernel
theorem dL_law_269 : decode cL_law 269 = .ok (.iload_n 3, 1) := by decide +kernel
theorem dL_law_270 : decode cL_law 270 = .ok (.iconst 2, 1) := by decide +kernel
theorem dL_law_271 : decode cL_law 271 = .ok (.iadd, 1) := by decide +kernel
theorem dL_law_272 : decode cL_law 272 = .ok (.iaload, 1) := by decide +kernel
theorem dL_law_273 : decode cL_law 273 = .ok (.invokevirtual 23, 3) := by decide +kernel
theorem dL_law_276 : decode cL_law 276 = .ok (.pop, 1) := by decide +kernel
theorem dL_law_277 : decode cL_law 277 = .ok (.aload_n 2, 1) := by decide +kernel
theorem dL_law_278 : decode cL_law 278 = .ok (.aload_n 0, 1) := by decide +kernel
theorem dL_law_279 : decode cL_law 279 = .ok (.iload_n 3, 1) := by decide +kernel
theorem dL_law_280 : decode cL_law 280 = .ok (.iconst 1, 1) := by decide +kernel
theorem dL_law_281 : decode cL_law 281 = .ok (.iadd, 1) := by decide +kernel
theorem dL_law_282 : decode cL_law 282 = .ok (.iaload, 1) := by decide +kernel
theorem dL_law_283 : decode cL_law 283 = .ok (.aload_n 0, 1) := by decide +kernel
theorem dL_law_284 : decode cL_law 284 = .ok (.iload_n 3, 1) := by decide +kernel
theorem dL_law_285 : decode cL_law 285 = .ok (.iconst 2, 1) := by decide +kernel
theorem dL_law_286 : decode cL_law 286 = .ok (.iadd, 1) := by decide +kernel
theorem dL_law_287 : decode cL_law 287 = .ok (.iaload, 1) := by decide +kernel
theorem dL_law_288 : decode cL_law 288 = .ok (.invokevirtual 27, 3) := by decide +kernel
theorem dL_law_291 : decode cL_law 291 = .ok (.pop, 1) := by decide +kernel
theorem dL_law_292 : decode cL_law 292 = .ok (.goto 1169, 3) := by decide +kernel
theorem dL_law_295 : decode cL_law 295 = .ok (.aload_n 1, 1) := by decide +kernel
theorem dL_law_296 : decode cL_law 296 = .ok (.aload_n 0, 1) := by decide +kernel
theorem dL_law_297 : decode cL_law 297 = .ok (.iload_n 3, 1) := by decide +kernel
theorem dL_law_298 : decode cL_law 298 = .ok (.iconst 1, 1) := by decide +kernel
theorem dL_law_299 : decode cL_law 299 = .ok (.iadd, 1) := by decide +kernel
theorem dL_law_300 : decode cL_law 300 = .ok (.iaload, 1) := by decide +kernel
theorem dL_law_301 : decode cL_law 301 = .ok (.aload_n 0, 1) := by decide +kernel
theorem dL_law_302 : decode cL_law 302 = .ok (.iload_n 3, 1) := by decide +kernel
theorem dL_law_303 : decode cL_law 303 = .ok (.iconst 2, 1) := by decide +kernel
theorem dL_law_304 : decode cL_law 304 = .ok (.iadd, 1) := by decide +kernel
theorem dL_law_305 : decode cL_law 305 = .ok (.iaload, 1) := by decide +kernel
theorem dL_law_306 : decode cL_law 306 = .ok (.invokevirtual 28, 3) := by decide +kernel
theorem dL_law_309 : decode cL_law 309 = .ok (.pop, 1) := by decide +kernel
theorem dL_law_310 : decode cL_law 310 = .ok (.aload_n 2, 1) := by decide +kernel
theorem dL_law_311 : decode cL_law 311 = .ok (.aload_n 0, 1) := by decide +kernel
theorem dL_law_312 : decode cL_law 312 = .ok (.iload_n 3, 1) := by decide +kernel
theorem dL_law_313 : decode cL_law 313 = .ok (.iconst 1, 1) := by decide +kernel
theorem dL_law_314 : decode cL_law 314 = .ok (.iadd, 1) := by decide +kernel
theorem dL_law_315 : decode cL_law 315 = .ok (.iaload, 1) := by decide +kernel
theorem dL_law_316 : decode cL_law 316 = .ok (.aload_n 0, 1) := by decide +kernel
theorem dL_law_317 : decode cL_law 317 = .ok (.iload_n 3, 1) := by decide +kernel
theorem dL_law_318 : decode cL_law 318 = .ok (.iconst 2, 1) := by decide +kernel
theorem dL_law_319 : decode cL_law 319 = .ok (.iadd, 1) := by decide +kernel
theorem dL_law_320 : decode cL_law 320 = .ok (.iaload, 1) := by decide +kernel
theorem dL_law_321 : decode cL_law 321 = .ok (.invokevirtual 31, 3) := by decide +kernel
theorem dL_law_324 : decode cL_law 324 = .ok (.pop, 1) := by decide +kernel
theorem dL_law_325 : decode cL_law 325 = .ok (.goto 1136, 3) := by decide +kernel
theorem dL_law_328 : decode cL_law 328 = .ok (.aload_n 1, 1) := by decide +kernel
theorem dL_law_329 : decode cL_law 329 = .ok (.aload_n 0, 1) := by decide +kernel
theorem dL_law_330 : decode cL_law 330 = .ok (.iload_n 3, 1) := by decide +kernel
theorem dL_law_331 : decode cL_law 331 = .ok (.iconst 1, 1) := by decide +kernel
theorem dL_law_332 : decode cL_law 332 = .ok (.iadd, 1) := by decide +kernel
theorem dL_law_333 : decode cL_law 333 = .ok (.iaload, 1) := by decide +kernel
theorem dL_law_334 : decode cL_law 334 = .ok (.invokevirtual 32, 3) := by decide +kernel
theorem dL_law_337 : decode cL_law 337 = .ok (.pop, 1) := by decide +kernel
theorem dL_law_338 : decode cL_law 338 = .ok (.aload_n 2, 1) := by decide +kernel
theorem dL_law_339 : decode cL_law 339 = .ok (.aload_n 0, 1) := by decide +kernel
theorem dL_law_340 : decode cL_law 340 = .ok (.iload_n 3, 1) := by decide +kernel
theorem dL_law_341 : decode cL_law 341 = .ok (.iconst 1, 1) := by decide +kernel
theorem dL_law_342 : decode cL_law 342 = .ok (.iadd, 1) := by decide +kernel
theorem dL_law_343 : decode cL_law 343 = .ok (.iaload, 1) := by decide +kernel
theorem dL_law_344 : decode cL_law 344 = .ok (.invokevirtual 35, 3) := by decide +kernel
theorem dL_law_347 : decode cL_law 347 = .ok (.pop, 1) := by decide +kernel
theorem dL_law_348 : decode cL_law 348 = .ok (.goto 1113, 3) := by decide +kernel
theorem dL_law_351 : decode cL_law 351 = .ok (.aload_n 1, 1) := by decide +kernel
theorem dL_law_352 : decode cL_law 352 = .ok (.invokevirtual 36, 3) := by decide +kernel
theorem dL_law_355 : decode cL_law 355 = .ok (.pop2, 1) := by decide +kernel
theorem dL_law_356 : decode cL_law 356 = .ok (.aload_n 2, 1) := by decide +kernel
theorem dL_law_357 : decode cL_law 357 = .ok (.invokevirtual 40, 3) := by decide +kernel
theorem dL_law_360 : decode cL_law 360 = .ok (.pop2, 1) := by decide +kernel
theorem dL_law_361 : decode cL_law 361 = .ok (.goto 1100, 3) := by decide +kernel
theorem dL_law_364 : decode cL_law 364 = .ok (.aload_n 1, 1) := by decide +kernel
theorem dL_law_365 : decode cL_law 365 = .ok (.aload_n 0, 1) := by decide +kernel
theorem dL_law_366 : decode cL_law 366 = .ok (.iload_n 3, 1) := by decide +kernel
theorem dL_law_367 : decode cL_law 367 = .ok (.iconst 1, 1) := by decide +kernel
theorem dL_law_368 : decode cL_law 368 = .ok (.iadd, 1) := by decide +kernel
theorem dL_law_369 : decode cL_law 369 = .ok (.iaload, 1) := by decide +kernel
theorem dL_law_370 : decode cL_law 370 = .ok (.invokevirtual 41, 3) := by decide +kernel
theorem dL_law_373 : decode cL_law 373 = .ok (.pop, 1) := by decide +kernel
theorem dL_law_374 : decode cL_law 374 = .ok (.aload_n 2, 1) := by decide +kernel
theorem dL_law_375 : decode cL_law 375 = .ok (.aload_n 0, 1) := by decide +kernel
theorem dL_law_376 : decode cL_law 376 = .ok (.iload_n 3, 1) := by decide +kernel
theorem dL_law_377 : decode cL_law 377 = .ok (.iconst 1, 1) := by decide +kernel
theorem dL_law_378 : decode cL_law 378 = .ok (.iadd, 1) := by decide +kernel
theorem dL_law_379 : decode cL_law 379 = .ok (.iaload, 1) := by decide +kernel
theorem dL_law_380 : decode cL_law 380 = .ok (.invokevirtual 44, 3) := by decide +kernel
theorem dL_law_383 : decode cL_law 383 = .ok (.pop, 1) := by decide +kernel
theorem dL_law_384 : decode cL_law 384 = .ok (.goto 1077, 3) := by decide +kernel
theorem dL_law_387 : decode cL_law 387 = .ok (.aload_n 1, 1) := by decide +kernel
theorem dL_law_388 : decode cL_law 388 = .ok (.aload_n 0, 1) := by decide +kernel
theorem dL_law_389 : decode cL_law 389 = .ok (.iload_n 3, 1) := by decide +kernel
theorem dL_law_390 : decode cL_law 390 = .ok (.iconst 1, 1) := by decide +kernel
theorem dL_law_391 : decode cL_law 391 = .ok (.iadd, 1) := by decide +kernel
theorem dL_law_392 : decode cL_law 392 = .ok (.iaload, 1) := by decide +kernel
theorem dL_law_393 : decode cL_law 393 = .ok (.aload_n 0, 1) := by decide +kernel
theorem dL_law_394 : decode cL_law 394 = .ok (.iload_n 3, 1) := by decide +kernel
theorem dL_law_395 : decode cL_law 395 = .ok (.iconst 2, 1) := by decide +kernel
theorem dL_law_396 : decode cL_law 396 = .ok (.iadd, 1) := by decide +kernel
theorem dL_law_397 : decode cL_law 397 = .ok (.iaload, 1) := by decide +kernel
theorem dL_law_398 : decode cL_law 398 = .ok (.invokevirtual 45, 3) := by decide +kernel
theorem dL_law_401 : decode cL_law 401 = .ok (.pop, 1) := by decide +kernel
theorem dL_law_402 : decode cL_law 402 = .ok (.aload_n 2, 1) := by decide +kernel
theorem dL_law_403 : decode cL_law 403 = .ok (.aload_n 0, 1) := by decide +kernel
theorem dL_law_404 : decode cL_law 404 = .ok (.iload_n 3, 1) := by decide +kernel
theorem dL_law_405 : decode cL_law 405 = .ok (.iconst 1, 1) := by decide +kernel
theorem dL_law_406 : decode cL_law 406 = .ok (.iadd, 1) := by decide +kernel
theorem dL_law_407 : decode cL_law 407 = .ok (.iaload, 1) := by decide +kernel
theorem dL_law_408 : decode cL_law 408 = .ok (.aload_n 0, 1) := by decide +kernel
theorem dL_law_409 : decode cL_law 409 = .ok (.iload_n 3, 1) := by decide +kernel
theorem dL_law_410 : decode cL_law 410 = .ok (.iconst 2, 1) := by decide +kernel
theorem dL_law_411 : decode cL_law 411 = .ok (.iadd, 1) := by decide +kernel
theorem dL_law_412 : decode cL_law 412 = .ok (.iaload, 1) := by decide +kernel
theorem dL_law_413 : decode cL_law 413 = .ok (.invokevirtual 48, 3) := by decide +kernel
theorem dL_law_416 : decode cL_law 416 = .ok (.pop, 1) := by decide +kernel
theorem dL_law_417 : decode cL_law 417 = .ok (.goto 1044, 3) := by decide +kernel
theorem dL_law_420 : decode cL_law 420 = .ok (.aload_n 1, 1) := by decide +kernel
theorem dL_law_421 : decode cL_law 421 = .ok (.aload_n 0, 1) := by decide +kernel
theorem dL_law_422 : decode cL_law 422 = .ok (.iload_n 3, 1) := by decide +kernel
theorem dL_law_423 : decode cL_law 423 = .ok (.iconst 1, 1) := by decide +kernel
theorem dL_law_424 : decode cL_law 424 = .ok (.iadd, 1) := by decide +kernel
theorem dL_law_425 : decode cL_law 425 = .ok (.iaload, 1) := by decide +kernel
theorem dL_law_426 : decode cL_law 426 = .ok (.aload_n 0, 1) := by decide +kernel
theorem dL_law_427 : decode cL_law 427 = .ok (.iload_n 3, 1) := by decide +kernel
theorem dL_law_428 : decode cL_law 428 = .ok (.iconst 2, 1) := by decide +kernel
theorem dL_law_429 : decode cL_law 429 = .ok (.iadd, 1) := by decide +kernel
theorem dL_law_430 : decode cL_law 430 = .ok (.iaload, 1) := by decide +kernel
theorem dL_law_431 : decode cL_law 431 = .ok (.aload_n 0, 1) := by decide +kernel
theorem dL_law_432 : decode cL_law 432 = .ok (.iload_n 3, 1) := by decide +kernel
theorem dL_law_433 : decode cL_law 433 = .ok (.iconst 3, 1) := by decide +kernel
theorem dL_law_434 : decode cL_law 434 = .ok (.iadd, 1) := by decide +kernel
theorem dL_law_435 : decode cL_law 435 = .ok (.iaload, 1) := by decide +kernel
theorem dL_law_436 : decode cL_law 436 = .ok (.aload_n 0, 1) := by decide +kernel
theorem dL_law_437 : decode cL_law 437 = .ok (.iload_n 3, 1) := by decide +kernel
theorem dL_law_438 : decode cL_law 438 = .ok (.iconst 4, 1) := by decide +kernel
theorem dL_law_439 : decode cL_law 439 = .ok (.iadd, 1) := by decide +kernel
theorem dL_law_440 : decode cL_law 440 = .ok (.iaload, 1) := by decide +kernel
theorem dL_law_441 : decode cL_law 441 = .ok (.invokevirtual 49, 3) := by decide +kernel
theorem dL_law_444 : decode cL_law 444 = .ok (.pop, 1) := by decide +kernel
theorem dL_law_445 : decode cL_law 445 = .ok (.aload_n 2, 1) := by decide +kernel
theorem dL_law_446 : decode cL_law 446 = .ok (.aload_n 0, 1) := by decide +kernel
theorem dL_law_447 : decode cL_law 447 = .ok (.iload_n 3, 1) := by decide +kernel
theorem dL_law_448 : decode cL_law 448 = .ok (.iconst 1, 1) := by decide +kernel
theorem dL_law_449 : decode cL_law 449 = .ok (.iadd, 1) := by decide +kernel
theorem dL_law_450 : decode cL_law 450 = .ok (.iaload, 1) := by decide +kernel
theorem dL_law_451 : decode cL_law 451 = .ok (.aload_n 0, 1) := by decide +kernel
theorem dL_law_452 : decode cL_law 452 = .ok (.iload_n 3, 1) := by decide +kernel
theorem dL_law_453 : decode cL_law 453 = .ok (.iconst 2, 1) := by decide +kernel
theorem dL_law_454 : decode cL_law 454 = .ok (.iadd, 1) := by decide +kernel
theorem dL_law_455 : decode cL_law 455 = .ok (.iaload, 1) := by decide +kernel
theorem dL_law_456 : decode cL_law 456 = .ok (.aload_n 0, 1) := by decide +kernel
theorem dL_law_457 : decode cL_law 457 = .ok (.iload_n 3, 1) := by decide +kernel
theorem dL_law_458 : decode cL_law 458 = .ok (.iconst 3, 1) := by decide +kernel
theorem dL_law_459 : decode cL_law 459 = .ok (.iadd, 1) := by decide +kernel
theorem dL_law_460 : decode cL_law 460 = .ok (.iaload, 1) := by decide +kernel
theorem dL_law_461 : decode cL_law 461 = .ok (.aload_n 0, 1) := by decide +kernel
theorem dL_law_462 : decode cL_law 462 = .ok (.iload_n 3, 1) := by decide +kernel
theorem dL_law_463 : decode cL_law 463 = .ok (.iconst 4, 1) := by decide +kernel
theorem dL_law_464 : decode cL_law 464 = .ok (.iadd, 1) := by decide +kernel
theorem dL_law_465 : decode cL_law 465 = .ok (.iaload, 1) := by decide +kernel
theorem dL_law_466 : decode cL_law 466 = .ok (.invokevirtual 53, 3) := by decide +kernel
theorem dL_law_469 : decode cL_law 469 = .ok (.pop, 1) := by decide +kernel
theorem dL_law_470 : decode cL_law 470 = .ok (.goto 991, 3) := by decide +kernel
theorem dL_law_473 : decode cL_law 473 = .ok (.aload_n 1, 1) := by decide +kernel
theorem dL_law_474 : decode cL_law 474 = .ok (.aload_n 0, 1) := by decide +kernel
theorem dL_law_475 : decode cL_law 475 = .ok (.iload_n 3, 1) := by decide +kernel
theorem dL_law_476 : decode cL_law 476 = .ok (.iconst 1, 1) := by decide +kernel
theorem dL_law_477 : decode cL_law 477 = .ok (.iadd, 1) := by decide +kernel
theorem dL_law_478 : decode cL_law 478 = .ok (.iaload, 1) := by decide +kernel
theorem dL_law_479 : decode cL_law 479 = .ok (.invokevirtual 54, 3) := by decide +kernel
theorem dL_law_482 : decode cL_law 482 = .ok (.pop, 1) := by decide +kernel
theorem dL_law_483 : decode cL_law 483 = .ok (.aload_n 2, 1) := by decide +kernel
theorem dL_law_484 : decode cL_law 484 = .ok (.aload_n 0, 1) := by decide +kernel
theorem dL_law_485 : decode cL_law 485 = .ok (.iload_n 3, 1) := by decide +kernel
theorem dL_law_486 : decode cL_law 486 = .ok (.iconst 1, 1) := by decide +kernel
theorem dL_law_487 : decode cL_law 487 = .ok (.iadd, 1) := by decide +kernel
theorem dL_law_488 : decode cL_law 488 = .ok (.iaload, 1) := by decide +kernel
theorem dL_law_489 : decode cL_law 489 = .ok (.invokevirtual 57, 3) := by decide +kernel
theorem dL_law_492 : decode cL_law 492 = .ok (.pop, 1) := by decide +kernel
theorem dL_law_493 : decode cL_law 493 = .ok (.goto 968, 3) := by decide +kernel
theorem dL_law_496 : decode cL_law 496 = .ok (.aload_n 1, 1) := by decide +kernel
theorem dL_law_497 : decode cL_law 497 = .ok (.aload_n 0, 1) := by decide +kernel
theorem dL_law_498 : decode cL_law 498 = .ok (.iload_n 3, 1) := by decide +kernel
theorem dL_law_499 : decode cL_law 499 = .ok (.iconst 1, 1) := by decide +kernel
theorem dL_law_500 : decode cL_law 500 = .ok (.iadd, 1) := by decide +kernel
theorem dL_law_501 : decode cL_law 501 = .ok (.iaload, 1) := by decide +kernel
theorem dL_law_502 : decode cL_law 502 = .ok (.invokevirtual 58, 3) := by decide +kernel
theorem dL_law_505 : decode cL_law 505 = .ok (.pop, 1) := by decide +kernel
theorem dL_law_506 : decode cL_law 506 = .ok (.aload_n 2, 1) := by decide +kernel
theorem dL_law_507 : decode cL_law 507 = .ok (.aload_n 0, 1) := by decide +kernel
theorem dL_law_508 : decode cL_law 508 = .ok (.iload_n 3, 1) := by decide +kernel
theorem dL_law_509 : decode cL_law 509 = .ok (.iconst 1, 1) := by decide +kernel
theorem dL_law_510 : decode cL_law 510 = .ok (.iadd, 1) := by decide +kernel
theorem dL_law_511 : decode cL_law 511 = .ok (.iaload, 1) := by decide +kernel
theorem dL_law_512 : decode cL_law 512 = .ok (.invokevirtual 61, 3) := by decide +kernel
theorem dL_law_515 : decode cL_law 515 = .ok (.pop, 1) := by decide +kernel
theorem dL_law_516 : decode cL_law 516 = .ok (.goto 945, 3) := by decide +kernel
theorem dL_law_519 : decode cL_law 519 = .ok (.aload_n 1, 1) := by decide +kernel
theorem dL_law_520 : decode cL_law 520 = .ok (.aload_n 0, 1) := by decide +kernel
theorem dL_law_521 : decode cL_law 521 = .ok (.iload_n 3, 1) := by decide +kernel
theorem dL_law_522 : decode cL_law 522 = .ok (.iconst 1, 1) := by decide +kernel
theorem dL_law_523 : decode cL_law 523 = .ok (.iadd, 1) := by decide +kernel
theorem dL_law_524 : decode cL_law 524 = .ok (.iaload, 1) := by decide +kernel
theorem dL_law_525 : decode cL_law 525 = .ok (.aload_n 0, 1) := by decide +kernel
theorem dL_law_526 : decode cL_law 526 = .ok (.iload_n 3, 1) := by decide +kernel
theorem dL_law_527 : decode cL_law 527 = .ok (.iconst 2, 1) := by decide +kernel
theorem dL_law_528 : decode cL_law 528 = .ok (.iadd, 1) := by decide +kernel
theorem dL_law_529 : decode cL_law 529 = .ok (.iaload, 1) := by decide +kernel
theorem dL_law_530 : decode cL_law 530 = .ok (.invokevirtual 62, 3) := by decide +kernel
theorem dL_law_533 : decode cL_law 533 = .ok (.pop, 1) := by decide +kernel
theorem dL_law_534 : decode cL_law 534 = .ok (.aload_n 2, 1) := by decide +kernel
theorem dL_law_535 : decode cL_law 535 = .ok (.aload_n 0, 1) := by decide +kernel
theorem dL_law_536 : decode cL_law 536 = .ok (.iload_n 3, 1) := by decide +kernel
theorem dL_law_537 : decode cL_law 537 = .ok (.iconst 1, 1) := by decide +kernel
theorem dL_law_538 : decode cL_law 538 = .ok (.iadd, 1) := by decide +kernel
theorem dL_law_539 : decode cL_law 539 = .ok (.iaload, 1) := by decide +kernel
theorem dL_law_540 : decode cL_law 540 = .ok (.aload_n 0, 1) := by decide +kernel
theorem dL_law_541 : decode cL_law 541 = .ok (.iload_n 3, 1) := by decide +kernel
theorem dL_law_542 : decode cL_law 542 = .ok (.iconst 2, 1) := by decide +kernel
theorem dL_law_543 : decode cL_law 543 = .ok (.iadd, 1) := by decide +kernel
theorem dL_law_544 : decode cL_law 544 = .ok (.iaload, 1) := by decide +kernel
theorem dL_law_545 : decode cL_law 545 = .ok (.invokevirtual 65, 3) := by decide +kernel
theorem dL_law_548 : decode cL_law 548 = .ok (.pop, 1) := by decide +kernel
theorem dL_law_549 : decode cL_law 549 = .ok (.goto 912, 3) := by decide +kernel
theorem dL_law_552 : decode cL_law 552 = .ok (.aload_n 1, 1) := by decide +kernel
theorem dL_law_553 : decode cL_law 553 = .ok (.aload_n 0, 1) := by decide +kernel
theorem dL_law_554 : decode cL_law 554 = .ok (.iload_n 3, 1) := by decide +kernel
theorem dL_law_555 : decode cL_law 555 = .ok (.iconst 1, 1) := by decide +kernel
theorem dL_law_556 : decode cL_law 556 = .ok (.iadd, 1) := by decide +kernel
theorem dL_law_557 : decode cL_law 557 = .ok (.iaload, 1) := by decide +kernel
theorem dL_law_558 : decode cL_law 558 = .ok (.aload_n 0, 1) := by decide +kernel
theorem dL_law_559 : decode cL_law 559 = .ok (.iload_n 3, 1) := by decide +kernel
theorem dL_law_560 : decode cL_law 560 = .ok (.iconst 2, 1) := by decide +kernel
theorem dL_law_561 : decode cL_law 561 = .ok (.iadd, 1) := by decide +kernel
theorem dL_law_562 : decode cL_law 562 = .ok (.iaload, 1) := by decide +kernel
theorem dL_law_563 : decode cL_law 563 = .ok (.invokevirtual 66, 3) := by decide +kernel
theorem dL_law_566 : decode cL_law 566 = .ok (.pop, 1) := by decide +kernel
theorem dL_law_567 : decode cL_law 567 = .ok (.aload_n 2, 1) := by decide +kernel
theorem dL_law_568 : decode cL_law 568 = .ok (.aload_n 0, 1) := by decide +kernel
theorem dL_law_569 : decode cL_law 569 = .ok (.iload_n 3, 1) := by decide +kernel
theorem dL_law_570 : decode cL_law 570 = .ok (.iconst 1, 1) := by decide +kernel
theorem dL_law_571 : decode cL_law 571 = .ok (.iadd, 1) := by decide +kernel
theorem dL_law_572 : decode cL_law 572 = .ok (.iaload, 1) := by decide +kernel
theorem dL_law_573 : decode cL_law 573 = .ok (.aload_n 0, 1) := by decide +kernel
theorem dL_law_574 : decode cL_law 574 = .ok (.iload_n 3, 1) := by decide +kernel
theorem dL_law_575 : decode cL_law 575 = .ok (.iconst 2, 1) := by decide +kernel
theorem dL_law_576 : decode cL_law 576 = .ok (.iadd, 1) := by decide +kernel
theorem dL_law_577 : decode cL_law 577 = .ok (.iaload, 1) := by decide +kernel
theorem dL_law_578 : decode cL_law 578 = .ok (.invokevirtual 69, 3) := by decide +kernel
theorem dL_law_581 : decode cL_law 581 = .ok (.pop, 1) := by decide +kernel
theorem dL_law_582 : decode cL_law 582 = .ok (.goto 879, 3) := by decide +kernel
theorem dL_law_585 : decode cL_law 585 = .ok (.aload_n 1, 1) := by decide +kernel
theorem dL_law_586 : decode cL_law 586 = .ok (.aload_n 0, 1) := by decide +kernel
theorem dL_law_587 : decode cL_law 587 = .ok (.iload_n 3, 1) := by decide +kernel
theorem dL_law_588 : decode cL_law 588 = .ok (.iconst 1, 1) := by decide +kernel
theorem dL_law_589 : decode cL_law 589 = .ok (.iadd, 1) := by decide +kernel
theorem dL_law_590 : decode cL_law 590 = .ok (.iaload, 1) := by decide +kernel
theorem dL_law_591 : decode cL_law 591 = .ok (.aload_n 0, 1) := by decide +kernel
theorem dL_law_592 : decode cL_law 592 = .ok (.iload_n 3, 1) := by decide +kernel
theorem dL_law_593 : decode cL_law 593 = .ok (.iconst 2, 1) := by decide +kernel
theorem dL_law_594 : decode cL_law 594 = .ok (.iadd, 1) := by decide +kernel
theorem dL_law_595 : decode cL_law 595 = .ok (.iaload, 1) := by decide +kernel
theorem dL_law_596 : decode cL_law 596 = .ok (.aload_n 0, 1) := by decide +kernel
theorem dL_law_597 : decode cL_law 597 = .ok (.iload_n 3, 1) := by decide +kernel
theorem dL_law_598 : decode cL_law 598 = .ok (.iconst 3, 1) := by decide +kernel
theorem dL_law_599 : decode cL_law 599 = .ok (.iadd, 1) := by decide +kernel
theorem dL_law_600 : decode cL_law 600 = .ok (.iaload, 1) := by decide +kernel
theorem dL_law_601 : decode cL_law 601 = .ok (.invokevirtual 70, 3) := by decide +kernel
theorem dL_law_604 : decode cL_law 604 = .ok (.pop, 1) := by decide +kernel
theorem dL_law_605 : decode cL_law 605 = .ok (.aload_n 2, 1) := by decide +kernel
theorem dL_law_606 : decode cL_law 606 = .ok (.aload_n 0, 1) := by decide +kernel
theorem dL_law_607 : decode cL_law 607 = .ok (.iload_n 3, 1) := by decide +kernel
theorem dL_law_608 : decode cL_law 608 = .ok (.iconst 1, 1) := by decide +kernel
theorem dL_law_609 : decode cL_law 609 = .ok (.iadd, 1) := by decide +kernel
theorem dL_law_610 : decode cL_law 610 = .ok (.iaload, 1) := by decide +kernel
theorem dL_law_611 : decode cL_law 611 = .ok (.aload_n 0, 1) := by decide +kernel
theorem dL_law_612 : decode cL_law 612 = .ok (.iload_n 3, 1) := by decide +kernel
theorem dL_law_613 : decode cL_law 613 = .ok (.iconst 2, 1) := by decide +kernel
theorem dL_law_614 : decode cL_law 614 = .ok (.iadd, 1) := by decide +kernel
theorem dL_law_615 : decode cL_law 615 = .ok (.iaload, 1) := by decide +kernel
theorem dL_law_616 : decode cL_law 616 = .ok (.aload_n 0, 1) := by decide +kernel
theorem dL_law_617 : decode cL_law 617 = .ok (.iload_n 3, 1) := by decide +kernel
theorem dL_law_618 : decode cL_law 618 = .ok (.iconst 3, 1) := by decide +kernel
theorem dL_law_619 : decode cL_law 619 = .ok (.iadd, 1) := by decide +kernel
theorem dL_law_620 : decode cL_law 620 = .ok (.iaload, 1) := by decide +kernel
theorem dL_law_621 : decode cL_law 621 = .ok (.invokevirtual 73, 3) := by decide +kernel
theorem dL_law_624 : decode cL_law 624 = .ok (.pop, 1) := by decide +kernel
theorem dL_law_625 : decode cL_law 625 = .ok (.goto 836, 3) := by decide +kernel
theorem dL_law_628 : decode cL_law 628 = .ok (.aload_n 1, 1) := by decide +kernel
theorem dL_law_629 : decode cL_law 629 = .ok (.aload_n 0, 1) := by decide +kernel
theorem dL_law_630 : decode cL_law 630 = .ok (.iload_n 3, 1) := by decide +kernel
theorem dL_law_631 : decode cL_law 631 = .ok (.iconst 1, 1) := by decide +kernel
theorem dL_law_632 : decode cL_law 632 = .ok (.iadd, 1) := by decide +kernel
theorem dL_law_633 : decode cL_law 633 = .ok (.iaload, 1) := by decide +kernel
theorem dL_law_634 : decode cL_law 634 = .ok (.aload_n 0, 1) := by decide +kernel
theorem dL_law_635 : decode cL_law 635 = .ok (.iload_n 3, 1) := by decide +kernel
theorem dL_law_636 : decode cL_law 636 = .ok (.iconst 2, 1) := by decide +kernel
theorem dL_law_637 : decode cL_law 637 = .ok (.iadd, 1) := by decide +kernel
theorem dL_law_638 : decode cL_law 638 = .ok (.iaload, 1) := by decide +kernel
theorem dL_law_639 : decode cL_law 639 = .ok (.invokevirtual 74, 3) := by decide +kernel
theorem dL_law_642 : decode cL_law 642 = .ok (.pop, 1) := by decide +kernel
theorem dL_law_643 : decode cL_law 643 = .ok (.aload_n 2, 1) := by decide +kernel
theorem dL_law_644 : decode cL_law 644 = .ok (.aload_n 0, 1) := by decide +kernel
theorem dL_law_645 : decode cL_law 645 = .ok (.iload_n 3, 1) := by decide +kernel
theorem dL_law_646 : decode cL_law 646 = .ok (.iconst 1, 1) := by decide +kernel
theorem dL_law_647 : decode cL_law 647 = .ok (.iadd, 1) := by decide +kernel
theorem dL_law_648 : decode cL_law 648 = .ok (.iaload, 1) := by decide +kernel
theorem dL_law_649 : decode cL_law 649 = .ok (.aload_n 0, 1) := by decide +kernel
theorem dL_law_650 : decode cL_law 650 = .ok (.iload_n 3, 1) := by decide +kernel
theorem dL_law_651 : decode cL_law 651 = .ok (.iconst 2, 1) := by decide +kernel
theorem dL_law_652 : decode cL_law 652 = .ok (.iadd, 1) := by decide +kernel
theorem dL_law_653 : decode cL_law 653 = .ok (.iaload, 1) := by decide +kernel
theorem dL_law_654 : decode cL_law 654 = .ok (.invokevirtual 77, 3) := by decide +kernel
theorem dL_law_657 : decode cL_law 657 = .ok (.pop, 1) := by decide +kernel
theorem dL_law_658 : decode cL_law 658 = .ok (.goto 803, 3) := by decide +kernel
theorem dL_law_661 : decode cL_law 661 = .ok (.aload_n 1, 1) := by decide +kernel
theorem dL_law_662 : decode cL_law 662 = .ok (.aload_n 0, 1) := by decide +kernel
theorem dL_law_663 : decode cL_law 663 = .ok (.iload_n 3, 1) := by decide +kernel
theorem dL_law_664 : decode cL_law 664 = .ok (.iconst 1, 1) := by decide +kernel
theorem dL_law_665 : decode cL_law 665 = .ok (.iadd, 1) := by decide +kernel
theorem dL_law_666 : decode cL_law 666 = .ok (.iaload, 1) := by decide +kernel
theorem dL_law_667 : decode cL_law 667 = .ok (.invokevirtual 78, 3) := by decide +kernel
theorem dL_law_670 : decode cL_law 670 = .ok (.pop, 1) := by decide +kernel
theorem dL_law_671 : decode cL_law 671 = .ok (.aload_n 2, 1) := by decide +kernel
theorem dL_law_672 : decode cL_law 672 = .ok (.aload_n 0, 1) := by decide +kernel
theorem dL_law_673 : decode cL_law 673 = .ok (.iload_n 3, 1) := by decide +kernel
theorem dL_law_674 : decode cL_law 674 = .ok (.iconst 1, 1) := by decide +kernel
theorem dL_law_675 : decode cL_law 675 = .ok (.iadd, 1) := by decide +kernel
theorem dL_law_676 : decode cL_law 676 = .ok (.iaload, 1) := by decide +kernel
theorem dL_law_677 : decode cL_law 677 = .ok (.invokevirtual 81, 3) := by decide +kernel
theorem dL_law_680 : decode cL_law 680 = .ok (.pop, 1) := by decide +kernel
theorem dL_law_681 : decode cL_law 681 = .ok (.goto 780, 3) := by decide +kernel
theorem dL_law_684 : decode cL_law 684 = .ok (.aload_n 1, 1) := by decide +kernel
theorem dL_law_685 : decode cL_law 685 = .ok (.aload_n 0, 1) := by decide +kernel
theorem dL_law_686 : decode cL_law 686 = .ok (.iload_n 3, 1) := by decide +kernel
theorem dL_law_687 : decode cL_law 687 = .ok (.iconst 1, 1) := by decide +kernel
theorem dL_law_688 : decode cL_law 688 = .ok (.iadd, 1) := by decide +kernel
theorem dL_law_689 : decode cL_law 689 = .ok (.iaload, 1) := by decide +kernel
theorem dL_law_690 : decode cL_law 690 = .ok (.aload_n 0, 1) := by decide +kernel
theorem dL_law_691 : decode cL_law 691 = .ok (.iload_n 3, 1) := by decide +kernel
theorem dL_law_692 : decode cL_law 692 = .ok (.iconst 2, 1) := by decide +kernel
theorem dL_law_693 : decode cL_law 693 = .ok (.iadd, 1) := by decide +kernel
theorem dL_law_694 : decode cL_law 694 = .ok (.iaload, 1) := by decide +kernel
theorem dL_law_695 : decode cL_law 695 = .ok (.aload_n 0, 1) := by decide +kernel
theorem dL_law_696 : decode cL_law 696 = .ok (.iload_n 3, 1) := by decide +kernel
theorem dL_law_697 : decode cL_law 697 = .ok (.iconst 3, 1) := by decide +kernel
theorem dL_law_698 : decode cL_law 698 = .ok (.iadd, 1) := by decide +kernel
theorem dL_law_699 : decode cL_law 699 = .ok (.iaload, 1) := by decide +kernel
theorem dL_law_700 : decode cL_law 700 = .ok (.ifCond .eq 7, 3) := by decide +kernel
theorem dL_law_703 : decode cL_law 703 = .ok (.iconst 1, 1) := by decide +kernel
theorem dL_law_704 : decode cL_law 704 = .ok (.goto 4, 3) := by decide +kernel
theorem dL_law_707 : decode cL_law 707 = .ok (.iconst 0, 1) := by decide +kernel
theorem dL_law_708 : decode cL_law 708 = .ok (.invokevirtual 82, 3) := by decide +kernel
theorem dL_law_711 : decode cL_law 711 = .ok (.pop, 1) := by decide +kernel
theorem dL_law_712 : decode cL_law 712 = .ok (.aload_n 2, 1) := by decide +kernel
theorem dL_law_713 : decode cL_law 713 = .ok (.aload_n 0, 1) := by decide +kernel
theorem dL_law_714 : decode cL_law 714 = .ok (.iload_n 3, 1) := by decide +kernel
theorem dL_law_715 : decode cL_law 715 = .ok (.iconst 1, 1) := by decide +kernel
theorem dL_law_716 : decode cL_law 716 = .ok (.iadd, 1) := by decide +kernel
theorem dL_law_717 : decode cL_law 717 = .ok (.iaload, 1) := by decide +kernel
theorem dL_law_718 : decode cL_law 718 = .ok (.aload_n 0, 1) := by decide +kernel
theorem dL_law_719 : decode cL_law 719 = .ok (.iload_n 3, 1) := by decide +kernel
theorem dL_law_720 : decode cL_law 720 = .ok (.iconst 2, 1) := by decide +kernel
theorem dL_law_721 : decode cL_law 721 = .ok (.iadd, 1) := by decide +kernel
theorem dL_law_722 : decode cL_law 722 = .ok (.iaload, 1) := by decide +kernel
theorem dL_law_723 : decode cL_law 723 = .ok (.aload_n 0, 1) := by decide +kernel
theorem dL_law_724 : decode cL_law 724 = .ok (.iload_n 3, 1) := by decide +kernel
theorem dL_law_725 : decode cL_law 725 = .ok (.iconst 3, 1) := by decide +kernel
theorem dL_law_726 : decode cL_law 726 = .ok (.iadd, 1) := by decide +kernel
theorem dL_law_727 : decode cL_law 727 = .ok (.iaload, 1) := by decide +kernel
theorem dL_law_728 : decode cL_law 728 = .ok (.ifCond .eq 7, 3) := by decide +kernel
theorem dL_law_731 : decode cL_law 731 = .ok (.iconst 1, 1) := by decide +kernel
theorem dL_law_732 : decode cL_law 732 = .ok (.goto 4, 3) := by decide +kernel
theorem dL_law_735 : decode cL_law 735 = .ok (.iconst 0, 1) := by decide +kernel
theorem dL_law_736 : decode cL_law 736 = .ok (.invokevirtual 86, 3) := by decide +kernel
theorem dL_law_739 : decode cL_law 739 = .ok (.pop, 1) := by decide +kernel
theorem dL_law_740 : decode cL_law 740 = .ok (.goto 721, 3) := by decide +kernel
theorem dL_law_743 : decode cL_law 743 = .ok (.aload_n 1, 1) := by decide +kernel
theorem dL_law_744 : decode cL_law 744 = .ok (.aload_n 0, 1) := by decide +kernel
theorem dL_law_745 : decode cL_law 745 = .ok (.iload_n 3, 1) := by decide +kernel
theorem dL_law_746 : decode cL_law 746 = .ok (.iconst 1, 1) := by decide +kernel
theorem dL_law_747 : decode cL_law 747 = .ok (.iadd, 1) := by decide +kernel
theorem dL_law_748 : decode cL_law 748 = .ok (.iaload, 1) := by decide +kernel
theorem dL_law_749 : decode cL_law 749 = .ok (.aload_n 0, 1) := by decide +kernel
theorem dL_law_750 : decode cL_law 750 = .ok (.iload_n 3, 1) := by decide +kernel
theorem dL_law_751 : decode cL_law 751 = .ok (.iconst 2, 1) := by decide +kernel
theorem dL_law_752 : decode cL_law 752 = .ok (.iadd, 1) := by decide +kernel
theorem dL_law_753 : decode cL_law 753 = .ok (.iaload, 1) := by decide +kernel
theorem dL_law_754 : decode cL_law 754 = .ok (.aload_n 0, 1) := by decide +kernel
theorem dL_law_755 : decode cL_law 755 = .ok (.iload_n 3, 1) := by decide +kernel
theorem dL_law_756 : decode cL_law 756 = .ok (.iconst 3, 1) := by decide +kernel
theorem dL_law_757 : decode cL_law 757 = .ok (.iadd, 1) := by decide +kernel
theorem dL_law_758 : decode cL_law 758 = .ok (.iaload, 1) := by decide +kernel
theorem dL_law_759 : decode cL_law 759 = .ok (.ifCond .eq 7, 3) := by decide +kernel
theorem dL_law_762 : decode cL_law 762 = .ok (.iconst 1, 1) := by decide +kernel
theorem dL_law_763 : decode cL_law 763 = .ok (.goto 4, 3) := by decide +kernel
theorem dL_law_766 : decode cL_law 766 = .ok (.iconst 0, 1) := by decide +kernel
theorem dL_law_767 : decode cL_law 767 = .ok (.invokevirtual 87, 3) := by decide +kernel
theorem dL_law_770 : decode cL_law 770 = .ok (.pop, 1) := by decide +kernel
theorem dL_law_771 : decode cL_law 771 = .ok (.aload_n 2, 1) := by decide +kernel
theorem dL_law_772 : decode cL_law 772 = .ok (.aload_n 0, 1) := by decide +kernel
theorem dL_law_773 : decode cL_law 773 = .ok (.iload_n 3, 1) := by decide +kernel
theorem dL_law_774 : decode cL_law 774 = .ok (.iconst 1, 1) := by decide +kernel
theorem dL_law_775 : decode cL_law 775 = .ok (.iadd, 1) := by decide +kernel
theorem dL_law_776 : decode cL_law 776 = .ok (.iaload, 1) := by decide +kernel
theorem dL_law_777 : decode cL_law 777 = .ok (.aload_n 0, 1) := by decide +kernel
theorem dL_law_778 : decode cL_law 778 = .ok (.iload_n 3, 1) := by decide +kernel
theorem dL_law_779 : decode cL_law 779 = .ok (.iconst 2, 1) := by decide +kernel
theorem dL_law_780 : decode cL_law 780 = .ok (.iadd, 1) := by decide +kernel
theorem dL_law_781 : decode cL_law 781 = .ok (.iaload, 1) := by decide +kernel
theorem dL_law_782 : decode cL_law 782 = .ok (.aload_n 0, 1) := by decide +kernel
theorem dL_law_783 : decode cL_law 783 = .ok (.iload_n 3, 1) := by decide +kernel
theorem dL_law_784 : decode cL_law 784 = .ok (.iconst 3, 1) := by decide +kernel
theorem dL_law_785 : decode cL_law 785 = .ok (.iadd, 1) := by decide +kernel
theorem dL_law_786 : decode cL_law 786 = .ok (.iaload, 1) := by decide +kernel
theorem dL_law_787 : decode cL_law 787 = .ok (.ifCond .eq 7, 3) := by decide +kernel
theorem dL_law_790 : decode cL_law 790 = .ok (.iconst 1, 1) := by decide +kernel
theorem dL_law_791 : decode cL_law 791 = .ok (.goto 4, 3) := by decide +kernel
theorem dL_law_794 : decode cL_law 794 = .ok (.iconst 0, 1) := by decide +kernel
theorem dL_law_795 : decode cL_law 795 = .ok (.invokevirtual 90, 3) := by decide +kernel
theorem dL_law_798 : decode cL_law 798 = .ok (.pop, 1) := by decide +kernel
theorem dL_law_799 : decode cL_law 799 = .ok (.goto 662, 3) := by decide +kernel
theorem dL_law_802 : decode cL_law 802 = .ok (.aload_n 1, 1) := by decide +kernel
theorem dL_law_803 : decode cL_law 803 = .ok (.aload_n 0, 1) := by decide +kernel
theorem dL_law_804 : decode cL_law 804 = .ok (.iload_n 3, 1) := by decide +kernel
theorem dL_law_805 : decode cL_law 805 = .ok (.iconst 1, 1) := by decide +kernel
theorem dL_law_806 : decode cL_law 806 = .ok (.iadd, 1) := by decide +kernel
theorem dL_law_807 : decode cL_law 807 = .ok (.iaload, 1) := by decide +kernel
theorem dL_law_808 : decode cL_law 808 = .ok (.invokevirtual 91, 3) := by decide +kernel
theorem dL_law_811 : decode cL_law 811 = .ok (.pop, 1) := by decide +kernel
theorem dL_law_812 : decode cL_law 812 = .ok (.aload_n 2, 1) := by decide +kernel
theorem dL_law_813 : decode cL_law 813 = .ok (.aload_n 0, 1) := by decide +kernel
theorem dL_law_814 : decode cL_law 814 = .ok (.iload_n 3, 1) := by decide +kernel
theorem dL_law_815 : decode cL_law 815 = .ok (.iconst 1, 1) := by decide +kernel
theorem dL_law_816 : decode cL_law 816 = .ok (.iadd, 1) := by decide +kernel
theorem dL_law_817 : decode cL_law 817 = .ok (.iaload, 1) := by decide +kernel
theorem dL_law_818 : decode cL_law 818 = .ok (.invokevirtual 94, 3) := by decide +kernel
theorem dL_law_821 : decode cL_law 821 = .ok (.pop, 1) := by decide +kernel
theorem dL_law_822 : decode cL_law 822 = .ok (.goto 639, 3) := by decide +kernel
theorem dL_law_825 : decode cL_law 825 = .ok (.aload_n 1, 1) := by decide +kernel
theorem dL_law_826 : decode cL_law 826 = .ok (.aload_n 0, 1) := by decide +kernel
theorem dL_law_827 : decode cL_law 827 = .ok (.iload_n 3, 1) := by decide +kernel
theorem dL_law_828 : decode cL_law 828 = .ok (.iconst 1, 1) := by decide +kernel
theorem dL_law_829 : decode cL_law 829 = .ok (.iadd, 1) := by decide +kernel
theorem dL_law_830 : decode cL_law 830 = .ok (.iaload, 1) := by decide +kernel
theorem dL_law_831 : decode cL_law 831 = .ok (.aload_n 0, 1) := by decide +kernel
theorem dL_law_832 : decode cL_law 832 = .ok (.iload_n 3, 1) := by decide +kernel
theorem dL_law_833 : decode cL_law 833 = .ok (.iconst 2, 1) := by decide +kernel
theorem dL_law_834 : decode cL_law 834 = .ok (.iadd, 1) := by decide +kernel
theorem dL_law_835 : decode cL_law 835 = .ok (.iaload, 1) := by decide +kernel
theorem dL_law_836 : decode cL_law 836 = .ok (.aload_n 0, 1) := by decide +kernel
theorem dL_law_837 : decode cL_law 837 = .ok (.iload_n 3, 1) := by decide +kernel
theorem dL_law_838 : decode cL_law 838 = .ok (.iconst 3, 1) := by decide +kernel
theorem dL_law_839 : decode cL_law 839 = .ok (.iadd, 1) := by decide +kernel
theorem dL_law_840 : decode cL_law 840 = .ok (.iaload, 1) := by decide +kernel
theorem dL_law_841 : decode cL_law 841 = .ok (.invokevirtual 95, 3) := by decide +kernel
theorem dL_law_844 : decode cL_law 844 = .ok (.aload_n 2, 1) := by decide +kernel
theorem dL_law_845 : decode cL_law 845 = .ok (.aload_n 0, 1) := by decide +kernel
theorem dL_law_846 : decode cL_law 846 = .ok (.iload_n 3, 1) := by decide +kernel
theorem dL_law_847 : decode cL_law 847 = .ok (.iconst 1, 1) := by decide +kernel
theorem dL_law_848 : decode cL_law 848 = .ok (.iadd, 1) := by decide +kernel
theorem dL_law_849 : decode cL_law 849 = .ok (.iaload, 1) := by decide +kernel
theorem dL_law_850 : decode cL_law 850 = .ok (.aload_n 0, 1) := by decide +kernel
theorem dL_law_851 : decode cL_law 851 = .ok (.iload_n 3, 1) := by decide +kernel
theorem dL_law_852 : decode cL_law 852 = .ok (.iconst 2, 1) := by decide +kernel
theorem dL_law_853 : decode cL_law 853 = .ok (.iadd, 1) := by decide +kernel
theorem dL_law_854 : decode cL_law 854 = .ok (.iaload, 1) := by decide +kernel
theorem dL_law_855 : decode cL_law 855 = .ok (.aload_n 0, 1) := by decide +kernel
theorem dL_law_856 : decode cL_law 856 = .ok (.iload_n 3, 1) := by decide +kernel
theorem dL_law_857 : decode cL_law 857 = .ok (.iconst 3, 1) := by decide +kernel
theorem dL_law_858 : decode cL_law 858 = .ok (.iadd, 1) := by decide +kernel
theorem dL_law_859 : decode cL_law 859 = .ok (.iaload, 1) := by decide +kernel
theorem dL_law_860 : decode cL_law 860 = .ok (.invokevirtual 98, 3) := by decide +kernel
theorem dL_law_863 : decode cL_law 863 = .ok (.if_icmp .eq 598, 3) := by decide +kernel
theorem dL_law_866 : decode cL_law 866 = .ok (.iconst 0, 1) := by decide +kernel
theorem dL_law_867 : decode cL_law 867 = .ok (.ireturn, 1) := by decide +kernel
theorem dL_law_868 : decode cL_law 868 = .ok (.aload_n 1, 1) := by decide +kernel
theorem dL_law_869 : decode cL_law 869 = .ok (.invokevirtual 99, 3) := by decide +kernel
theorem dL_law_872 : decode cL_law 872 = .ok (.pop, 1) := by decide +kernel
theorem dL_law_873 : decode cL_law 873 = .ok (.aload_n 2, 1) := by decide +kernel
theorem dL_law_874 : decode cL_law 874 = .ok (.invokevirtual 103, 3) := by decide +kernel
theorem dL_law_877 : decode cL_law 877 = .ok (.pop, 1) := by decide +kernel
theorem dL_law_878 : decode cL_law 878 = .ok (.goto 583, 3) := by decide +kernel
theorem dL_law_881 : decode cL_law 881 = .ok (.aload_n 1, 1) := by decide +kernel
theorem dL_law_882 : decode cL_law 882 = .ok (.aload_n 0, 1) := by decide +kernel
theorem dL_law_883 : decode cL_law 883 = .ok (.iload_n 3, 1) := by decide +kernel
theorem dL_law_884 : decode cL_law 884 = .ok (.iconst 1, 1) := by decide +kernel
theorem dL_law_885 : decode cL_law 885 = .ok (.iadd, 1) := by decide +kernel
theorem dL_law_886 : decode cL_law 886 = .ok (.iaload, 1) := by decide +kernel
theorem dL_law_887 : decode cL_law 887 = .ok (.aload_n 0, 1) := by decide +kernel
theorem dL_law_888 : decode cL_law 888 = .ok (.iload_n 3, 1) := by decide +kernel
theorem dL_law_889 : decode cL_law 889 = .ok (.iconst 2, 1) := by decide +kernel
theorem dL_law_890 : decode cL_law 890 = .ok (.iadd, 1) := by decide +kernel
theorem dL_law_891 : decode cL_law 891 = .ok (.iaload, 1) := by decide +kernel
theorem dL_law_892 : decode cL_law 892 = .ok (.invokevirtual 104, 3) := by decide +kernel
theorem dL_law_895 : decode cL_law 895 = .ok (.pop, 1) := by decide +kernel
theorem dL_law_896 : decode cL_law 896 = .ok (.aload_n 2, 1) := by decide +kernel
theorem dL_law_897 : decode cL_law 897 = .ok (.aload_n 0, 1) := by decide +kernel
theorem dL_law_898 : decode cL_law 898 = .ok (.iload_n 3, 1) := by decide +kernel
theorem dL_law_899 : decode cL_law 899 = .ok (.iconst 1, 1) := by decide +kernel
theorem dL_law_900 : decode cL_law 900 = .ok (.iadd, 1) := by decide +kernel
theorem dL_law_901 : decode cL_law 901 = .ok (.iaload, 1) := by decide +kernel
theorem dL_law_902 : decode cL_law 902 = .ok (.aload_n 0, 1) := by decide +kernel
theorem dL_law_903 : decode cL_law 903 = .ok (.iload_n 3, 1) := by decide +kernel
theorem dL_law_904 : decode cL_law 904 = .ok (.iconst 2, 1) := by decide +kernel
theorem dL_law_905 : decode cL_law 905 = .ok (.iadd, 1) := by decide +kernel
theorem dL_law_906 : decode cL_law 906 = .ok (.iaload, 1) := by decide +kernel
theorem dL_law_907 : decode cL_law 907 = .ok (.invokevirtual 107, 3) := by decide +kernel
theorem dL_law_910 : decode cL_law 910 = .ok (.pop, 1) := by decide +kernel
theorem dL_law_911 : decode cL_law 911 = .ok (.goto 550, 3) := by decide +kernel
theorem dL_law_914 : decode cL_law 914 = .ok (.aload_n 1, 1) := by decide +kernel
theorem dL_law_915 : decode cL_law 915 = .ok (.aload_n 0, 1) := by decide +kernel
theorem dL_law_916 : decode cL_law 916 = .ok (.iload_n 3, 1) := by decide +kernel
theorem dL_law_917 : decode cL_law 917 = .ok (.iconst 1, 1) := by decide +kernel
theorem dL_law_918 : decode cL_law 918 = .ok (.iadd, 1) := by decide +kernel
theorem dL_law_919 : decode cL_law 919 = .ok (.iaload, 1) := by decide +kernel
theorem dL_law_920 : decode cL_law 920 = .ok (.aload_n 0, 1) := by decide +kernel
theorem dL_law_921 : decode cL_law 921 = .ok (.iload_n 3, 1) := by decide +kernel
theorem dL_law_922 : decode cL_law 922 = .ok (.iconst 2, 1) := by decide +kernel
theorem dL_law_923 : decode cL_law 923 = .ok (.iadd, 1) := by decide +kernel
theorem dL_law_924 : decode cL_law 924 = .ok (.iaload, 1) := by decide +kernel
theorem dL_law_925 : decode cL_law 925 = .ok (.invokevirtual 108, 3) := by decide +kernel
theorem dL_law_928 : decode cL_law 928 = .ok (.pop, 1) := by decide +kernel
theorem dL_law_929 : decode cL_law 929 = .ok (.aload_n 2, 1) := by decide +kernel
theorem dL_law_930 : decode cL_law 930 = .ok (.aload_n 0, 1) := by decide +kernel
theorem dL_law_931 : decode cL_law 931 = .ok (.iload_n 3, 1) := by decide +kernel
theorem dL_law_932 : decode cL_law 932 = .ok (.iconst 1, 1) := by decide +kernel
theorem dL_law_933 : decode cL_law 933 = .ok (.iadd, 1) := by decide +kernel
theorem dL_law_934 : decode cL_law 934 = .ok (.iaload, 1) := by decide +kernel
theorem dL_law_935 : decode cL_law 935 = .ok (.aload_n 0, 1) := by decide +kernel
theorem dL_law_936 : decode cL_law 936 = .ok (.iload_n 3, 1) := by decide +kernel
theorem dL_law_937 : decode cL_law 937 = .ok (.iconst 2, 1) := by decide +kernel
theorem dL_law_938 : decode cL_law 938 = .ok (.iadd, 1) := by decide +kernel
theorem dL_law_939 : decode cL_law 939 = .ok (.iaload, 1) := by decide +kernel
theorem dL_law_940 : decode cL_law 940 = .ok (.invokevirtual 111, 3) := by decide +kernel
theorem dL_law_943 : decode cL_law 943 = .ok (.pop, 1) := by decide +kernel
theorem dL_law_944 : decode cL_law 944 = .ok (.goto 517, 3) := by decide +kernel
theorem dL_law_947 : decode cL_law 947 = .ok (.aload_n 1, 1) := by decide +kernel
theorem dL_law_948 : decode cL_law 948 = .ok (.invokevirtual 112, 3) := by decide +kernel
theorem dL_law_951 : decode cL_law 951 = .ok (.pop, 1) := by decide +kernel
theorem dL_law_952 : decode cL_law 952 = .ok (.aload_n 2, 1) := by decide +kernel
theorem dL_law_953 : decode cL_law 953 = .ok (.invokevirtual 115, 3) := by decide +kernel
theorem dL_law_956 : decode cL_law 956 = .ok (.pop, 1) := by decide +kernel
theorem dL_law_957 : decode cL_law 957 = .ok (.goto 504, 3) := by decide +kernel
theorem dL_law_960 : decode cL_law 960 = .ok (.aload_n 1, 1) := by decide +kernel
theorem dL_law_961 : decode cL_law 961 = .ok (.aload_n 0, 1) := by decide +kernel
theorem dL_law_962 : decode cL_law 962 = .ok (.iload_n 3, 1) := by decide +kernel
theorem dL_law_963 : decode cL_law 963 = .ok (.iconst 1, 1) := by decide +kernel
theorem dL_law_964 : decode cL_law 964 = .ok (.iadd, 1) := by decide +kernel
theorem dL_law_965 : decode cL_law 965 = .ok (.iaload, 1) := by decide +kernel
theorem dL_law_966 : decode cL_law 966 = .ok (.aload_n 0, 1) := by decide +kernel
theorem dL_law_967 : decode cL_law 967 = .ok (.iload_n 3, 1) := by decide +kernel
theorem dL_law_968 : decode cL_law 968 = .ok (.iconst 2, 1) := by decide +kernel
theorem dL_law_969 : decode cL_law 969 = .ok (.iadd, 1) := by decide +kernel
theorem dL_law_970 : decode cL_law 970 = .ok (.iaload, 1) := by decide +kernel
theorem dL_law_971 : decode cL_law 971 = .ok (.aload_n 0, 1) := by decide +kernel
theorem dL_law_972 : decode cL_law 972 = .ok (.iload_n 3, 1) := by decide +kernel
theorem dL_law_973 : decode cL_law 973 = .ok (.iconst 3, 1) := by decide +kernel
theorem dL_law_974 : decode cL_law 974 = .ok (.iadd, 1) := by decide +kernel
theorem dL_law_975 : decode cL_law 975 = .ok (.iaload, 1) := by decide +kernel
theorem dL_law_976 : decode cL_law 976 = .ok (.invokevirtual 116, 3) := by decide +kernel
theorem dL_law_979 : decode cL_law 979 = .ok (.pop, 1) := by decide +kernel
theorem dL_law_980 : decode cL_law 980 = .ok (.aload_n 2, 1) := by decide +kernel
theorem dL_law_981 : decode cL_law 981 = .ok (.aload_n 0, 1) := by decide +kernel
theorem dL_law_982 : decode cL_law 982 = .ok (.iload_n 3, 1) := by decide +kernel
theorem dL_law_983 : decode cL_law 983 = .ok (.iconst 1, 1) := by decide +kernel
theorem dL_law_984 : decode cL_law 984 = .ok (.iadd, 1) := by decide +kernel
theorem dL_law_985 : decode cL_law 985 = .ok (.iaload, 1) := by decide +kernel
theorem dL_law_986 : decode cL_law 986 = .ok (.aload_n 0, 1) := by decide +kernel
theorem dL_law_987 : decode cL_law 987 = .ok (.iload_n 3, 1) := by decide +kernel
theorem dL_law_988 : decode cL_law 988 = .ok (.iconst 2, 1) := by decide +kernel
theorem dL_law_989 : decode cL_law 989 = .ok (.iadd, 1) := by decide +kernel
theorem dL_law_990 : decode cL_law 990 = .ok (.iaload, 1) := by decide +kernel
theorem dL_law_991 : decode cL_law 991 = .ok (.aload_n 0, 1) := by decide +kernel
theorem dL_law_992 : decode cL_law 992 = .ok (.iload_n 3, 1) := by decide +kernel
theorem dL_law_993 : decode cL_law 993 = .ok (.iconst 3, 1) := by decide +kernel
theorem dL_law_994 : decode cL_law 994 = .ok (.iadd, 1) := by decide +kernel
theorem dL_law_995 : decode cL_law 995 = .ok (.iaload, 1) := by decide +kernel
theorem dL_law_996 : decode cL_law 996 = .ok (.invokevirtual 119, 3) := by decide +kernel
theorem dL_law_999 : decode cL_law 999 = .ok (.pop, 1) := by decide +kernel
theorem dL_law_1000 : decode cL_law 1000 = .ok (.goto 461, 3) := by decide +kernel
theorem dL_law_1003 : decode cL_law 1003 = .ok (.aload_n 1, 1) := by decide +kernel
theorem dL_law_1004 : decode cL_law 1004 = .ok (.aload_n 0, 1) := by decide +kernel
theorem dL_law_1005 : decode cL_law 1005 = .ok (.iload_n 3, 1) := by decide +kernel
theorem dL_law_1006 : decode cL_law 1006 = .ok (.iconst 1, 1) := by decide +kernel
theorem dL_law_1007 : decode cL_law 1007 = .ok (.iadd, 1) := by decide +kernel
theorem dL_law_1008 : decode cL_law 1008 = .ok (.iaload, 1) := by decide +kernel
theorem dL_law_1009 : decode cL_law 1009 = .ok (.aload_n 0, 1) := by decide +kernel
theorem dL_law_1010 : decode cL_law 1010 = .ok (.iload_n 3, 1) := by decide +kernel
theorem dL_law_1011 : decode cL_law 1011 = .ok (.iconst 2, 1) := by decide +kernel
theorem dL_law_1012 : decode cL_law 1012 = .ok (.iadd, 1) := by decide +kernel
theorem dL_law_1013 : decode cL_law 1013 = .ok (.iaload, 1) := by decide +kernel
theorem dL_law_1014 : decode cL_law 1014 = .ok (.invokevirtual 120, 3) := by decide +kernel
