theorem dX12_isExitBarred_1 : decode cX12_isExitBarred 1 = .ok (.istore 4, 2) := by decide +kernel
theorem dX12_isExitBarred_3 : decode cX12_isExitBarred 3 = .ok (.iload 4, 2) := by decide +kernel
theorem dX12_isExitBarred_5 : decode cX12_isExitBarred 5 = .ok (.aload_n 0, 1) := by decide +kernel
theorem dX12_isExitBarred_6 : decode cX12_isExitBarred 6 = .ok (.getfield 202, 3) := by decide +kernel
theorem dX12_isExitBarred_9 : decode cX12_isExitBarred 9 = .ok (.if_icmp .ge 60, 3) := by decide +kernel
theorem dX12_isExitBarred_12 : decode cX12_isExitBarred 12 = .ok (.aload_n 0, 1) := by decide +kernel
theorem dX12_isExitBarred_13 : decode cX12_isExitBarred 13 = .ok (.getfield 37, 3) := by decide +kernel
theorem dX12_isExitBarred_16 : decode cX12_isExitBarred 16 = .ok (.iload 4, 2) := by decide +kernel
theorem dX12_isExitBarred_18 : decode cX12_isExitBarred 18 = .ok (.baload, 1) := by decide +kernel
theorem dX12_isExitBarred_19 : decode cX12_isExitBarred 19 = .ok (.ifCond .eq 44, 3) := by decide +kernel
theorem dX12_isExitBarred_22 : decode cX12_isExitBarred 22 = .ok (.aload_n 0, 1) := by decide +kernel
theorem dX12_isExitBarred_23 : decode cX12_isExitBarred 23 = .ok (.getfield 25, 3) := by decide +kernel
theorem dX12_isExitBarred_26 : decode cX12_isExitBarred 26 = .ok (.iload 4, 2) := by decide +kernel
theorem dX12_isExitBarred_28 : decode cX12_isExitBarred 28 = .ok (.iaload, 1) := by decide +kernel
theorem dX12_isExitBarred_29 : decode cX12_isExitBarred 29 = .ok (.iconst 5, 1) := by decide +kernel
theorem dX12_isExitBarred_30 : decode cX12_isExitBarred 30 = .ok (.if_icmp .ne 33, 3) := by decide +kernel
theorem dX12_isExitBarred_33 : decode cX12_isExitBarred 33 = .ok (.aload_n 0, 1) := by decide +kernel
theorem dX12_isExitBarred_34 : decode cX12_isExitBarred 34 = .ok (.getfield 28, 3) := by decide +kernel
theorem dX12_isExitBarred_37 : decode cX12_isExitBarred 37 = .ok (.iload 4, 2) := by decide +kernel
theorem dX12_isExitBarred_39 : decode cX12_isExitBarred 39 = .ok (.iaload, 1) := by decide +kernel
theorem dX12_isExitBarred_40 : decode cX12_isExitBarred 40 = .ok (.iload_n 1, 1) := by decide +kernel
theorem dX12_isExitBarred_41 : decode cX12_isExitBarred 41 = .ok (.if_icmp .ne 22, 3) := by decide +kernel
theorem dX12_isExitBarred_44 : decode cX12_isExitBarred 44 = .ok (.aload_n 0, 1) := by decide +kernel
theorem dX12_isExitBarred_45 : decode cX12_isExitBarred 45 = .ok (.getfield 34, 3) := by decide +kernel
theorem dX12_isExitBarred_48 : decode cX12_isExitBarred 48 = .ok (.iload 4, 2) := by decide +kernel
theorem dX12_isExitBarred_50 : decode cX12_isExitBarred 50 = .ok (.iaload, 1) := by decide +kernel
theorem dX12_isExitBarred_51 : decode cX12_isExitBarred 51 = .ok (.iload_n 3, 1) := by decide +kernel
theorem dX12_isExitBarred_52 : decode cX12_isExitBarred 52 = .ok (.if_icmp .ne 11, 3) := by decide +kernel
theorem dX12_isExitBarred_55 : decode cX12_isExitBarred 55 = .ok (.aload_n 0, 1) := by decide +kernel
theorem dX12_isExitBarred_56 : decode cX12_isExitBarred 56 = .ok (.iload 4, 2) := by decide +kernel
theorem dX12_isExitBarred_58 : decode cX12_isExitBarred 58 = .ok (.invokevirtual 212, 3) := by decide +kernel
theorem dX12_isExitBarred_61 : decode cX12_isExitBarred 61 = .ok (.iconst 1, 1) := by decide +kernel
theorem dX12_isExitBarred_62 : decode cX12_isExitBarred 62 = .ok (.ireturn, 1) := by decide +kernel
theorem dX12_isExitBarred_63 : decode cX12_isExitBarred 63 = .ok (.iinc 4 1, 3) := by decide +kernel
theorem dX12_isExitBarred_66 : decode cX12_isExitBarred 66 = .ok (.goto (-63), 3) := by decide +kernel
theorem dX12_isExitBarred_69 : decode cX12_isExitBarred 69 = .ok (.aload_n 0, 1) := by decide +kernel
theorem dX12_isExitBarred_70 : decode cX12_isExitBarred 70 = .ok (.iload_n 2, 1) := by decide +kernel
theorem dX12_isExitBarred_71 : decode cX12_isExitBarred 71 = .ok (.iconst 2, 1) := by decide +kernel
theorem dX12_isExitBarred_72 : decode cX12_isExitBarred 72 = .ok (.invokevirtual 184, 3) := by decide +kernel
theorem dX12_isExitBarred_75 : decode cX12_isExitBarred 75 = .ok (.ifCond .ne 5, 3) := by decide +kernel
theorem dX12_isExitBarred_78 : decode cX12_isExitBarred 78 = .ok (.iconst 0, 1) := by decide +kernel
theorem dX12_isExitBarred_79 : decode cX12_isExitBarred 79 = .ok (.ireturn, 1) := by decide +kernel
theorem dX12_isExitBarred_80 : decode cX12_isExitBarred 80 = .ok (.iconst 0, 1) := by decide +kernel
theorem dX12_isExitBarred_81 : decode cX12_isExitBarred 81 = .ok (.istore 4, 2) := by decide +kernel
theorem dX12_isExitBarred_83 : decode cX12_isExitBarred 83 = .ok (.iload 4, 2) := by decide +kernel
theorem dX12_isExitBarred_85 : decode cX12_isExitBarred 85 = .ok (.aload_n 0, 1) := by decide +kernel
theorem dX12_isExitBarred_86 : decode cX12_isExitBarred 86 = .ok (.getfield 202, 3) := by decide +kernel
theorem dX12_isExitBarred_89 : decode cX12_isExitBarred 89 = .ok (.if_icmp .ge 60, 3) := by decide +kernel
theorem dX12_isExitBarred_92 : decode cX12_isExitBarred 92 = .ok (.aload_n 0, 1) := by decide +kernel
theorem dX12_isExitBarred_93 : decode cX12_isExitBarred 93 = .ok (.getfield 37, 3) := by decide +kernel
theorem dX12_isExitBarred_96 : decode cX12_isExitBarred 96 = .ok (.iload 4, 2) := by decide +kernel
theorem dX12_isExitBarred_98 : decode cX12_isExitBarred 98 = .ok (.baload, 1) := by decide +kernel
theorem dX12_isExitBarred_99 : decode cX12_isExitBarred 99 = .ok (.ifCond .eq 44, 3) := by decide +kernel
theorem dX12_isExitBarred_102 : decode cX12_isExitBarred 102 = .ok (.aload_n 0, 1) := by decide +kernel
theorem dX12_isExitBarred_103 : decode cX12_isExitBarred 103 = .ok (.getfield 25, 3) := by decide +kernel
theorem dX12_isExitBarred_106 : decode cX12_isExitBarred 106 = .ok (.iload 4, 2) := by decide +kernel
theorem dX12_isExitBarred_108 : decode cX12_isExitBarred 108 = .ok (.iaload, 1) := by decide +kernel
theorem dX12_isExitBarred_109 : decode cX12_isExitBarred 109 = .ok (.iconst 5, 1) := by decide +kernel
theorem dX12_isExitBarred_110 : decode cX12_isExitBarred 110 = .ok (.if_icmp .ne 33, 3) := by decide +kernel
theorem dX12_isExitBarred_113 : decode cX12_isExitBarred 113 = .ok (.aload_n 0, 1) := by decide +kernel
theorem dX12_isExitBarred_114 : decode cX12_isExitBarred 114 = .ok (.getfield 28, 3) := by decide +kernel
theorem dX12_isExitBarred_117 : decode cX12_isExitBarred 117 = .ok (.iload 4, 2) := by decide +kernel
theorem dX12_isExitBarred_119 : decode cX12_isExitBarred 119 = .ok (.iaload, 1) := by decide +kernel
theorem dX12_isExitBarred_120 : decode cX12_isExitBarred 120 = .ok (.iload_n 1, 1) := by decide +kernel
theorem dX12_isExitBarred_121 : decode cX12_isExitBarred 121 = .ok (.if_icmp .ne 22, 3) := by decide +kernel
theorem dX12_isExitBarred_124 : decode cX12_isExitBarred 124 = .ok (.aload_n 0, 1) := by decide +kernel
theorem dX12_isExitBarred_125 : decode cX12_isExitBarred 125 = .ok (.getfield 31, 3) := by decide +kernel
theorem dX12_isExitBarred_128 : decode cX12_isExitBarred 128 = .ok (.iload 4, 2) := by decide +kernel
theorem dX12_isExitBarred_130 : decode cX12_isExitBarred 130 = .ok (.iaload, 1) := by decide +kernel
theorem dX12_isExitBarred_131 : decode cX12_isExitBarred 131 = .ok (.iload_n 2, 1) := by decide +kernel
theorem dX12_isExitBarred_132 : decode cX12_isExitBarred 132 = .ok (.if_icmp .ne 11, 3) := by decide +kernel
theorem dX12_isExitBarred_135 : decode cX12_isExitBarred 135 = .ok (.aload_n 0, 1) := by decide +kernel
theorem dX12_isExitBarred_136 : decode cX12_isExitBarred 136 = .ok (.iload 4, 2) := by decide +kernel
theorem dX12_isExitBarred_138 : decode cX12_isExitBarred 138 = .ok (.invokevirtual 212, 3) := by decide +kernel
theorem dX12_isExitBarred_141 : decode cX12_isExitBarred 141 = .ok (.iconst 1, 1) := by decide +kernel
theorem dX12_isExitBarred_142 : decode cX12_isExitBarred 142 = .ok (.ireturn, 1) := by decide +kernel
theorem dX12_isExitBarred_143 : decode cX12_isExitBarred 143 = .ok (.iinc 4 1, 3) := by decide +kernel
theorem dX12_isExitBarred_146 : decode cX12_isExitBarred 146 = .ok (.goto (-63), 3) := by decide +kernel
theorem dX12_isExitBarred_149 : decode cX12_isExitBarred 149 = .ok (.iconst 0, 1) := by decide +kernel
theorem dX12_isExitBarred_150 : decode cX12_isExitBarred 150 = .ok (.istore 4, 2) := by decide +kernel
theorem dX12_isExitBarred_152 : decode cX12_isExitBarred 152 = .ok (.iload 4, 2) := by decide +kernel
theorem dX12_isExitBarred_154 : decode cX12_isExitBarred 154 = .ok (.aload_n 0, 1) := by decide +kernel
theorem dX12_isExitBarred_155 : decode cX12_isExitBarred 155 = .ok (.getfield 202, 3) := by decide +kernel
theorem dX12_isExitBarred_158 : decode cX12_isExitBarred 158 = .ok (.if_icmp .ge 47, 3) := by decide +kernel
theorem dX12_isExitBarred_161 : decode cX12_isExitBarred 161 = .ok (.aload_n 0, 1) := by decide +kernel
theorem dX12_isExitBarred_162 : decode cX12_isExitBarred 162 = .ok (.getfield 37, 3) := by decide +kernel
theorem dX12_isExitBarred_165 : decode cX12_isExitBarred 165 = .ok (.iload 4, 2) := by decide +kernel
theorem dX12_isExitBarred_167 : decode cX12_isExitBarred 167 = .ok (.baload, 1) := by decide +kernel
theorem dX12_isExitBarred_168 : decode cX12_isExitBarred 168 = .ok (.ifCond .eq 31, 3) := by decide +kernel
theorem dX12_isExitBarred_171 : decode cX12_isExitBarred 171 = .ok (.aload_n 0, 1) := by decide +kernel
theorem dX12_isExitBarred_172 : decode cX12_isExitBarred 172 = .ok (.getfield 25, 3) := by decide +kernel
theorem dX12_isExitBarred_175 : decode cX12_isExitBarred 175 = .ok (.iload 4, 2) := by decide +kernel
theorem dX12_isExitBarred_177 : decode cX12_isExitBarred 177 = .ok (.iaload, 1) := by decide +kernel
theorem dX12_isExitBarred_178 : decode cX12_isExitBarred 178 = .ok (.iconst 5, 1) := by decide +kernel
theorem dX12_isExitBarred_179 : decode cX12_isExitBarred 179 = .ok (.if_icmp .ne 20, 3) := by decide +kernel
theorem dX12_isExitBarred_182 : decode cX12_isExitBarred 182 = .ok (.aload_n 0, 1) := by decide +kernel
theorem dX12_isExitBarred_183 : decode cX12_isExitBarred 183 = .ok (.getfield 31, 3) := by decide +kernel
theorem dX12_isExitBarred_186 : decode cX12_isExitBarred 186 = .ok (.iload 4, 2) := by decide +kernel
theorem dX12_isExitBarred_188 : decode cX12_isExitBarred 188 = .ok (.iaload, 1) := by decide +kernel
theorem dX12_isExitBarred_189 : decode cX12_isExitBarred 189 = .ok (.iload_n 2, 1) := by decide +kernel
theorem dX12_isExitBarred_190 : decode cX12_isExitBarred 190 = .ok (.if_icmp .ne 9, 3) := by decide +kernel
theorem dX12_isExitBarred_193 : decode cX12_isExitBarred 193 = .ok (.aload_n 0, 1) := by decide +kernel
theorem dX12_isExitBarred_194 : decode cX12_isExitBarred 194 = .ok (.iload 4, 2) := by decide +kernel
theorem dX12_isExitBarred_196 : decode cX12_isExitBarred 196 = .ok (.invokevirtual 212, 3) := by decide +kernel
theorem dX12_isExitBarred_199 : decode cX12_isExitBarred 199 = .ok (.iinc 4 1, 3) := by decide +kernel
theorem dX12_isExitBarred_202 : decode cX12_isExitBarred 202 = .ok (.goto (-50), 3) := by decide +kernel
theorem dX12_isExitBarred_205 : decode cX12_isExitBarred 205 = .ok (.aload_n 0, 1) := by decide +kernel
theorem dX12_isExitBarred_206 : decode cX12_isExitBarred 206 = .ok (.getfield 205, 3) := by decide +kernel
theorem dX12_isExitBarred_209 : decode cX12_isExitBarred 209 = .ok (.iconst 2, 1) := by decide +kernel
theorem dX12_isExitBarred_210 : decode cX12_isExitBarred 210 = .ok (.if_icmp .ge 8, 3) := by decide +kernel
theorem dX12_isExitBarred_213 : decode cX12_isExitBarred 213 = .ok (.aload_n 0, 1) := by decide +kernel
theorem dX12_isExitBarred_214 : decode cX12_isExitBarred 214 = .ok (.iconst 0, 1) := by decide +kernel
theorem dX12_isExitBarred_215 : decode cX12_isExitBarred 215 = .ok (.putfield 205, 3) := by decide +kernel
theorem dX12_isExitBarred_218 : decode cX12_isExitBarred 218 = .ok (.aload_n 0, 1) := by decide +kernel
theorem dX12_isExitBarred_219 : decode cX12_isExitBarred 219 = .ok (.getfield 205, 3) := by decide +kernel
theorem dX12_isExitBarred_222 : decode cX12_isExitBarred 222 = .ok (.ifCond .le 7, 3) := by decide +kernel
theorem dX12_isExitBarred_225 : decode cX12_isExitBarred 225 = .ok (.iconst 1, 1) := by decide +kernel
theorem dX12_isExitBarred_226 : decode cX12_isExitBarred 226 = .ok (.goto 4, 3) := by decide +kernel
theorem dX12_isExitBarred_229 : decode cX12_isExitBarred 229 = .ok (.iconst 0, 1) := by decide +kernel
theorem dX12_isExitBarred_230 : decode cX12_isExitBarred 230 = .ok (.ireturn, 1) := by decide +kernel
theorem dX12_isFlagBarred_0 : decode cX12_isFlagBarred 0 = .ok (.aload_n 0, 1) := by decide +kernel
theorem dX12_isFlagBarred_1 : decode cX12_isFlagBarred 1 = .ok (.bipush 6, 2) := by decide +kernel
theorem dX12_isFlagBarred_3 : decode cX12_isFlagBarred 3 = .ok (.iload_n 1, 1) := by decide +kernel
theorem dX12_isFlagBarred_4 : decode cX12_isFlagBarred 4 = .ok (.iload_n 2, 1) := by decide +kernel
theorem dX12_isFlagBarred_5 : decode cX12_isFlagBarred 5 = .ok (.iconst 1, 1) := by decide +kernel
theorem dX12_isFlagBarred_6 : decode cX12_isFlagBarred 6 = .ok (.iload_n 3, 1) := by decide +kernel
theorem dX12_isFlagBarred_7 : decode cX12_isFlagBarred 7 = .ok (.isub, 1) := by decide +kernel
theorem dX12_isFlagBarred_8 : decode cX12_isFlagBarred 8 = .ok (.invokevirtual 216, 3) := by decide +kernel
theorem dX12_isFlagBarred_11 : decode cX12_isFlagBarred 11 = .ok (.istore 4, 2) := by decide +kernel
theorem dX12_isFlagBarred_13 : decode cX12_isFlagBarred 13 = .ok (.iload 4, 2) := by decide +kernel
theorem dX12_isFlagBarred_15 : decode cX12_isFlagBarred 15 = .ok (.bipush (-9), 2) := by decide +kernel
theorem dX12_isFlagBarred_17 : decode cX12_isFlagBarred 17 = .ok (.if_icmp .ne 30, 3) := by decide +kernel
theorem dX12_isFlagBarred_20 : decode cX12_isFlagBarred 20 = .ok (.iload_n 3, 1) := by decide +kernel
theorem dX12_isFlagBarred_21 : decode cX12_isFlagBarred 21 = .ok (.iconst 1, 1) := by decide +kernel
theorem dX12_isFlagBarred_22 : decode cX12_isFlagBarred 22 = .ok (.if_icmp .ne 25, 3) := by decide +kernel
theorem dX12_isFlagBarred_25 : decode cX12_isFlagBarred 25 = .ok (.iload_n 2, 1) := by decide +kernel
theorem dX12_isFlagBarred_26 : decode cX12_isFlagBarred 26 = .ok (.ifCond .eq 8, 3) := by decide +kernel
theorem dX12_isFlagBarred_29 : decode cX12_isFlagBarred 29 = .ok (.iload_n 2, 1) := by decide +kernel
theorem dX12_isFlagBarred_30 : decode cX12_isFlagBarred 30 = .ok (.iconst 1, 1) := by decide +kernel
theorem dX12_isFlagBarred_31 : decode cX12_isFlagBarred 31 = .ok (.if_icmp .ne 16, 3) := by decide +kernel
theorem dX12_isFlagBarred_34 : decode cX12_isFlagBarred 34 = .ok (.aload_n 0, 1) := by decide +kernel
theorem dX12_isFlagBarred_35 : decode cX12_isFlagBarred 35 = .ok (.bipush 6, 2) := by decide +kernel
theorem dX12_isFlagBarred_37 : decode cX12_isFlagBarred 37 = .ok (.iload_n 1, 1) := by decide +kernel
theorem dX12_isFlagBarred_38 : decode cX12_isFlagBarred 38 = .ok (.iconst 1, 1) := by decide +kernel
theorem dX12_isFlagBarred_39 : decode cX12_isFlagBarred 39 = .ok (.iload_n 2, 1) := by decide +kernel
theorem dX12_isFlagBarred_40 : decode cX12_isFlagBarred 40 = .ok (.isub, 1) := by decide +kernel
theorem dX12_isFlagBarred_41 : decode cX12_isFlagBarred 41 = .ok (.iconst 1, 1) := by decide +kernel
theorem dX12_isFlagBarred_42 : decode cX12_isFlagBarred 42 = .ok (.invokevirtual 216, 3) := by decide +kernel
theorem dX12_isFlagBarred_45 : decode cX12_isFlagBarred 45 = .ok (.istore 4, 2) := by decide +kernel
theorem dX12_isFlagBarred_47 : decode cX12_isFlagBarred 47 = .ok (.iload 4, 2) := by decide +kernel
theorem dX12_isFlagBarred_49 : decode cX12_isFlagBarred 49 = .ok (.bipush (-9), 2) := by decide +kernel
theorem dX12_isFlagBarred_51 : decode cX12_isFlagBarred 51 = .ok (.if_icmp .ne 43, 3) := by decide +kernel
theorem dX12_isFlagBarred_54 : decode cX12_isFlagBarred 54 = .ok (.iload_n 2, 1) := by decide +kernel
theorem dX12_isFlagBarred_55 : decode cX12_isFlagBarred 55 = .ok (.iconst 4, 1) := by decide +kernel
theorem dX12_isFlagBarred_56 : decode cX12_isFlagBarred 56 = .ok (.if_icmp .ne 38, 3) := by decide +kernel
theorem dX12_isFlagBarred_59 : decode cX12_isFlagBarred 59 = .ok (.iload_n 3, 1) := by decide +kernel
theorem dX12_isFlagBarred_60 : decode cX12_isFlagBarred 60 = .ok (.ifCond .ne 34, 3) := by decide +kernel
theorem dX12_isFlagBarred_63 : decode cX12_isFlagBarred 63 = .ok (.aload_n 0, 1) := by decide +kernel
theorem dX12_isFlagBarred_64 : decode cX12_isFlagBarred 64 = .ok (.iload_n 1, 1) := by decide +kernel
theorem dX12_isFlagBarred_65 : decode cX12_isFlagBarred 65 = .ok (.invokevirtual 208, 3) := by decide +kernel
theorem dX12_isFlagBarred_68 : decode cX12_isFlagBarred 68 = .ok (.bipush (-9), 2) := by decide +kernel
theorem dX12_isFlagBarred_70 : decode cX12_isFlagBarred 70 = .ok (.if_icmp .eq 24, 3) := by decide +kernel
theorem dX12_isFlagBarred_73 : decode cX12_isFlagBarred 73 = .ok (.aload_n 0, 1) := by decide +kernel
theorem dX12_isFlagBarred_74 : decode cX12_isFlagBarred 74 = .ok (.getfield 25, 3) := by decide +kernel
theorem dX12_isFlagBarred_77 : decode cX12_isFlagBarred 77 = .ok (.aload_n 0, 1) := by decide +kernel
theorem dX12_isFlagBarred_78 : decode cX12_isFlagBarred 78 = .ok (.iload_n 1, 1) := by decide +kernel
theorem dX12_isFlagBarred_79 : decode cX12_isFlagBarred 79 = .ok (.invokevirtual 208, 3) := by decide +kernel
theorem dX12_isFlagBarred_82 : decode cX12_isFlagBarred 82 = .ok (.iaload, 1) := by decide +kernel
theorem dX12_isFlagBarred_83 : decode cX12_isFlagBarred 83 = .ok (.iconst 3, 1) := by decide +kernel
theorem dX12_isFlagBarred_84 : decode cX12_isFlagBarred 84 = .ok (.if_icmp .ne 10, 3) := by decide +kernel
theorem dX12_isFlagBarred_87 : decode cX12_isFlagBarred 87 = .ok (.aload_n 0, 1) := by decide +kernel
theorem dX12_isFlagBarred_88 : decode cX12_isFlagBarred 88 = .ok (.iload_n 1, 1) := by decide +kernel
theorem dX12_isFlagBarred_89 : decode cX12_isFlagBarred 89 = .ok (.invokevirtual 208, 3) := by decide +kernel
theorem dX12_isFlagBarred_92 : decode cX12_isFlagBarred 92 = .ok (.istore 4, 2) := by decide +kernel
theorem dX12_isFlagBarred_94 : decode cX12_isFlagBarred 94 = .ok (.iload 4, 2) := by decide +kernel
theorem dX12_isFlagBarred_96 : decode cX12_isFlagBarred 96 = .ok (.bipush (-9), 2) := by decide +kernel
theorem dX12_isFlagBarred_98 : decode cX12_isFlagBarred 98 = .ok (.if_icmp .eq 9, 3) := by decide +kernel
theorem dX12_isFlagBarred_101 : decode cX12_isFlagBarred 101 = .ok (.aload_n 0, 1) := by decide +kernel
theorem dX12_isFlagBarred_102 : decode cX12_isFlagBarred 102 = .ok (.iload 4, 2) := by decide +kernel
theorem dX12_isFlagBarred_104 : decode cX12_isFlagBarred 104 = .ok (.invokevirtual 212, 3) := by decide +kernel
theorem dX12_isFlagBarred_107 : decode cX12_isFlagBarred 107 = .ok (.iload 4, 2) := by decide +kernel
theorem dX12_isFlagBarred_109 : decode cX12_isFlagBarred 109 = .ok (.bipush (-9), 2) := by decide +kernel
theorem dX12_isFlagBarred_111 : decode cX12_isFlagBarred 111 = .ok (.if_icmp .eq 7, 3) := by decide +kernel
theorem dX12_isFlagBarred_114 : decode cX12_isFlagBarred 114 = .ok (.iconst 1, 1) := by decide +kernel
theorem dX12_isFlagBarred_115 : decode cX12_isFlagBarred 115 = .ok (.goto 4, 3) := by decide +kernel
theorem dX12_isFlagBarred_118 : decode cX12_isFlagBarred 118 = .ok (.iconst 0, 1) := by decide +kernel
theorem dX12_isFlagBarred_119 : decode cX12_isFlagBarred 119 = .ok (.ireturn, 1) := by decide +kernel
theorem dX12_isKeyBarred_0 : decode cX12_isKeyBarred 0 = .ok (.iconst 0, 1) := by decide +kernel
theorem dX12_isKeyBarred_1 : decode cX12_isKeyBarred 1 = .ok (.istore_n 2, 1) := by decide +kernel
theorem dX12_isKeyBarred_2 : decode cX12_isKeyBarred 2 = .ok (.iload_n 2, 1) := by decide +kernel
theorem dX12_isKeyBarred_3 : decode cX12_isKeyBarred 3 = .ok (.aload_n 0, 1) := by decide +kernel
theorem dX12_isKeyBarred_4 : decode cX12_isKeyBarred 4 = .ok (.getfield 202, 3) := by decide +kernel
theorem dX12_isKeyBarred_7 : decode cX12_isKeyBarred 7 = .ok (.if_icmp .ge 44, 3) := by decide +kernel
theorem dX12_isKeyBarred_10 : decode cX12_isKeyBarred 10 = .ok (.aload_n 0, 1) := by decide +kernel
theorem dX12_isKeyBarred_11 : decode cX12_isKeyBarred 11 = .ok (.getfield 37, 3) := by decide +kernel
theorem dX12_isKeyBarred_14 : decode cX12_isKeyBarred 14 = .ok (.iload_n 2, 1) := by decide +kernel
theorem dX12_isKeyBarred_15 : decode cX12_isKeyBarred 15 = .ok (.baload, 1) := by decide +kernel
theorem dX12_isKeyBarred_16 : decode cX12_isKeyBarred 16 = .ok (.ifCond .eq 29, 3) := by decide +kernel
theorem dX12_isKeyBarred_19 : decode cX12_isKeyBarred 19 = .ok (.aload_n 0, 1) := by decide +kernel
theorem dX12_isKeyBarred_20 : decode cX12_isKeyBarred 20 = .ok (.getfield 25, 3) := by decide +kernel
theorem dX12_isKeyBarred_23 : decode cX12_isKeyBarred 23 = .ok (.iload_n 2, 1) := by decide +kernel
theorem dX12_isKeyBarred_24 : decode cX12_isKeyBarred 24 = .ok (.iaload, 1) := by decide +kernel
theorem dX12_isKeyBarred_25 : decode cX12_isKeyBarred 25 = .ok (.bipush 7, 2) := by decide +kernel
theorem dX12_isKeyBarred_27 : decode cX12_isKeyBarred 27 = .ok (.if_icmp .ne 18, 3) := by decide +kernel
theorem dX12_isKeyBarred_30 : decode cX12_isKeyBarred 30 = .ok (.aload_n 0, 1) := by decide +kernel
theorem dX12_isKeyBarred_31 : decode cX12_isKeyBarred 31 = .ok (.getfield 31, 3) := by decide +kernel
theorem dX12_isKeyBarred_34 : decode cX12_isKeyBarred 34 = .ok (.iload_n 2, 1) := by decide +kernel
theorem dX12_isKeyBarred_35 : decode cX12_isKeyBarred 35 = .ok (.iaload, 1) := by decide +kernel
theorem dX12_isKeyBarred_36 : decode cX12_isKeyBarred 36 = .ok (.iload_n 1, 1) := by decide +kernel
theorem dX12_isKeyBarred_37 : decode cX12_isKeyBarred 37 = .ok (.if_icmp .ne 8, 3) := by decide +kernel
theorem dX12_isKeyBarred_40 : decode cX12_isKeyBarred 40 = .ok (.aload_n 0, 1) := by decide +kernel
theorem dX12_isKeyBarred_41 : decode cX12_isKeyBarred 41 = .ok (.iload_n 2, 1) := by decide +kernel
theorem dX12_isKeyBarred_42 : decode cX12_isKeyBarred 42 = .ok (.invokevirtual 212, 3) := by decide +kernel
theorem dX12_isKeyBarred_45 : decode cX12_isKeyBarred 45 = .ok (.iinc 2 1, 3) := by decide +kernel
theorem dX12_isKeyBarred_48 : decode cX12_isKeyBarred 48 = .ok (.goto (-46), 3) := by decide +kernel
theorem dX12_isKeyBarred_51 : decode cX12_isKeyBarred 51 = .ok (.aload_n 0, 1) := by decide +kernel
theorem dX12_isKeyBarred_52 : decode cX12_isKeyBarred 52 = .ok (.getfield 205, 3) := by decide +kernel
theorem dX12_isKeyBarred_55 : decode cX12_isKeyBarred 55 = .ok (.ifCond .le 7, 3) := by decide +kernel
theorem dX12_isKeyBarred_58 : decode cX12_isKeyBarred 58 = .ok (.iconst 1, 1) := by decide +kernel
theorem dX12_isKeyBarred_59 : decode cX12_isKeyBarred 59 = .ok (.goto 4, 3) := by decide +kernel
theorem dX12_isKeyBarred_62 : decode cX12_isKeyBarred 62 = .ok (.iconst 0, 1) := by decide +kernel
theorem dX12_isKeyBarred_63 : decode cX12_isKeyBarred 63 = .ok (.ireturn, 1) := by decide +kernel
theorem dX12_say_0 : decode cX12_say 0 = .ok (.aload_n 0, 1) := by decide +kernel
theorem dX12_say_1 : decode cX12_say 1 = .ok (.iconst 0, 1) := by decide +kernel
theorem dX12_say_2 : decode cX12_say 2 = .ok (.putfield 205, 3) := by decide +kernel
theorem dX12_say_5 : decode cX12_say 5 = .ok (.iload_n 1, 1) := by decide +kernel
theorem dX12_say_6 : decode cX12_say 6 = .ok (.i2l, 1) := by decide +kernel
theorem dX12_say_7 : decode cX12_say 7 = .ok (.lconst 0, 1) := by decide +kernel
theorem dX12_say_8 : decode cX12_say 8 = .ok (.ldc2_w 220, 3) := by decide +kernel
theorem dX12_say_11 : decode cX12_say 11 = .ok (.invokestatic 166, 3) := by decide +kernel
theorem dX12_say_14 : decode cX12_say 14 = .ok (.ifCond .eq 15, 3) := by decide +kernel
theorem dX12_say_17 : decode cX12_say 17 = .ok (.aload_n 0, 1) := by decide +kernel
theorem dX12_say_18 : decode cX12_say 18 = .ok (.iload_n 1, 1) := by decide +kernel
theorem dX12_say_19 : decode cX12_say 19 = .ok (.iload_n 2, 1) := by decide +kernel
theorem dX12_say_20 : decode cX12_say 20 = .ok (.iload_n 3, 1) := by decide +kernel
theorem dX12_say_21 : decode cX12_say 21 = .ok (.iload 4, 2) := by decide +kernel
theorem dX12_say_23 : decode cX12_say 23 = .ok (.invokevirtual 222, 3) := by decide +kernel
theorem dX12_say_26 : decode cX12_say 26 = .ok (.ifCond .ne 5, 3) := by decide +kernel
theorem dX12_say_29 : decode cX12_say 29 = .ok (.iconst (-1), 1) := by decide +kernel
theorem dX12_say_30 : decode cX12_say 30 = .ok (.ireturn, 1) := by decide +kernel
theorem dX12_say_31 : decode cX12_say 31 = .ok (.iload_n 1, 1) := by decide +kernel
theorem dX12_say_32 : decode cX12_say 32 = .ok (.iconst 5, 1) := by decide +kernel
theorem dX12_say_33 : decode cX12_say 33 = .ok (.if_icmp .lt 9, 3) := by decide +kernel
theorem dX12_say_36 : decode cX12_say 36 = .ok (.iload_n 1, 1) := by decide +kernel
theorem dX12_say_37 : decode cX12_say 37 = .ok (.bipush 7, 2) := by decide +kernel
theorem dX12_say_39 : decode cX12_say 39 = .ok (.if_icmp .ne 7, 3) := by decide +kernel
theorem dX12_say_42 : decode cX12_say 42 = .ok (.iconst 0, 1) := by decide +kernel
theorem dX12_say_43 : decode cX12_say 43 = .ok (.goto 5, 3) := by decide +kernel
theorem dX12_say_46 : decode cX12_say 46 = .ok (.iload 4, 2) := by decide +kernel
theorem dX12_say_48 : decode cX12_say 48 = .ok (.istore 5, 2) := by decide +kernel
theorem dX12_say_50 : decode cX12_say 50 = .ok (.aload_n 0, 1) := by decide +kernel
theorem dX12_say_51 : decode cX12_say 51 = .ok (.iload_n 1, 1) := by decide +kernel
theorem dX12_say_52 : decode cX12_say 52 = .ok (.iload_n 2, 1) := by decide +kernel
theorem dX12_say_53 : decode cX12_say 53 = .ok (.iload_n 3, 1) := by decide +kernel
theorem dX12_say_54 : decode cX12_say 54 = .ok (.invokevirtual 226, 3) := by decide +kernel
theorem dX12_say_57 : decode cX12_say 57 = .ok (.ifCond .eq 22, 3) := by decide +kernel
theorem dX12_say_60 : decode cX12_say 60 = .ok (.iload_n 1, 1) := by decide +kernel
theorem dX12_say_61 : decode cX12_say 61 = .ok (.bipush 6, 2) := by decide +kernel
theorem dX12_say_63 : decode cX12_say 63 = .ok (.if_icmp .eq 12, 3) := by decide +kernel
theorem dX12_say_66 : decode cX12_say 66 = .ok (.aload_n 0, 1) := by decide +kernel
theorem dX12_say_67 : decode cX12_say 67 = .ok (.iload_n 1, 1) := by decide +kernel
theorem dX12_say_68 : decode cX12_say 68 = .ok (.iload_n 3, 1) := by decide +kernel
theorem dX12_say_69 : decode cX12_say 69 = .ok (.invokevirtual 230, 3) := by decide +kernel
theorem dX12_say_72 : decode cX12_say 72 = .ok (.ifCond .eq 7, 3) := by decide +kernel
theorem dX12_say_75 : decode cX12_say 75 = .ok (.iconst 1, 1) := by decide +kernel
theorem dX12_say_76 : decode cX12_say 76 = .ok (.goto 4, 3) := by decide +kernel
theorem dX12_say_79 : decode cX12_say 79 = .ok (.iconst 0, 1) := by decide +kernel
theorem dX12_say_80 : decode cX12_say 80 = .ok (.istore 6, 2) := by decide +kernel
theorem dX12_say_82 : decode cX12_say 82 = .ok (.iload 6, 2) := by decide +kernel
theorem dX12_say_84 : decode cX12_say 84 = .ok (.ifCond .eq 15, 3) := by decide +kernel
theorem dX12_say_87 : decode cX12_say 87 = .ok (.aload_n 0, 1) := by decide +kernel
theorem dX12_say_88 : decode cX12_say 88 = .ok (.iload_n 1, 1) := by decide +kernel
theorem dX12_say_89 : decode cX12_say 89 = .ok (.iload_n 2, 1) := by decide +kernel
theorem dX12_say_90 : decode cX12_say 90 = .ok (.iload_n 3, 1) := by decide +kernel
theorem dX12_say_91 : decode cX12_say 91 = .ok (.iload 5, 2) := by decide +kernel
theorem dX12_say_93 : decode cX12_say 93 = .ok (.invokevirtual 216, 3) := by decide +kernel
theorem dX12_say_96 : decode cX12_say 96 = .ok (.goto 5, 3) := by decide +kernel
theorem dX12_say_99 : decode cX12_say 99 = .ok (.bipush (-9), 2) := by decide +kernel
theorem dX12_say_101 : decode cX12_say 101 = .ok (.istore 7, 2) := by decide +kernel
theorem dX12_say_103 : decode cX12_say 103 = .ok (.iload 7, 2) := by decide +kernel
theorem dX12_say_105 : decode cX12_say 105 = .ok (.bipush (-9), 2) := by decide +kernel
theorem dX12_say_107 : decode cX12_say 107 = .ok (.if_icmp .eq 6, 3) := by decide +kernel
theorem dX12_say_110 : decode cX12_say 110 = .ok (.iload 7, 2) := by decide +kernel
theorem dX12_say_112 : decode cX12_say 112 = .ok (.ireturn, 1) := by decide +kernel
theorem dX12_say_113 : decode cX12_say 113 = .ok (.aload_n 0, 1) := by decide +kernel
theorem dX12_say_114 : decode cX12_say 114 = .ok (.getfield 202, 3) := by decide +kernel
theorem dX12_say_117 : decode cX12_say 117 = .ok (.sipush 200, 3) := by decide +kernel
theorem dX12_say_120 : decode cX12_say 120 = .ok (.if_icmp .ne 6, 3) := by decide +kernel
theorem dX12_say_123 : decode cX12_say 123 = .ok (.bipush (-2), 2) := by decide +kernel
theorem dX12_say_125 : decode cX12_say 125 = .ok (.ireturn, 1) := by decide +kernel
theorem dX12_say_126 : decode cX12_say 126 = .ok (.iload 6, 2) := by decide +kernel
theorem dX12_say_128 : decode cX12_say 128 = .ok (.ifCond .ne 9, 3) := by decide +kernel
theorem dX12_say_131 : decode cX12_say 131 = .ok (.aload_n 0, 1) := by decide +kernel
theorem dX12_say_132 : decode cX12_say 132 = .ok (.iconst 3, 1) := by decide +kernel
theorem dX12_say_133 : decode cX12_say 133 = .ok (.invokevirtual 233, 3) := by decide +kernel
theorem dX12_say_136 : decode cX12_say 136 = .ok (.ireturn, 1) := by decide +kernel
theorem dX12_say_137 : decode cX12_say 137 = .ok (.iload_n 1, 1) := by decide +kernel
theorem dX12_say_138 : decode cX12_say 138 = .ok (.iconst 5, 1) := by decide +kernel
theorem dX12_say_139 : decode cX12_say 139 = .ok (.if_icmp .ge 13, 3) := by decide +kernel
theorem dX12_say_142 : decode cX12_say 142 = .ok (.aload_n 0, 1) := by decide +kernel
theorem dX12_say_143 : decode cX12_say 143 = .ok (.iload_n 1, 1) := by decide +kernel
theorem dX12_say_144 : decode cX12_say 144 = .ok (.iload_n 2, 1) := by decide +kernel
theorem dX12_say_145 : decode cX12_say 145 = .ok (.iload_n 3, 1) := by decide +kernel
theorem dX12_say_146 : decode cX12_say 146 = .ok (.invokevirtual 236, 3) := by decide +kernel
theorem dX12_say_149 : decode cX12_say 149 = .ok (.goto 41, 3) := by decide +kernel
theorem dX12_say_152 : decode cX12_say 152 = .ok (.iload_n 1, 1) := by decide +kernel
theorem dX12_say_153 : decode cX12_say 153 = .ok (.iconst 5, 1) := by decide +kernel
theorem dX12_say_154 : decode cX12_say 154 = .ok (.if_icmp .ne 14, 3) := by decide +kernel
theorem dX12_say_157 : decode cX12_say 157 = .ok (.aload_n 0, 1) := by decide +kernel
theorem dX12_say_158 : decode cX12_say 158 = .ok (.iload_n 2, 1) := by decide +kernel
theorem dX12_say_159 : decode cX12_say 159 = .ok (.iload_n 3, 1) := by decide +kernel
theorem dX12_say_160 : decode cX12_say 160 = .ok (.iload 4, 2) := by decide +kernel
theorem dX12_say_162 : decode cX12_say 162 = .ok (.invokevirtual 239, 3) := by decide +kernel
theorem dX12_say_165 : decode cX12_say 165 = .ok (.goto 25, 3) := by decide +kernel
theorem dX12_say_168 : decode cX12_say 168 = .ok (.iload_n 1, 1) := by decide +kernel
theorem dX12_say_169 : decode cX12_say 169 = .ok (.bipush 6, 2) := by decide +kernel
theorem dX12_say_171 : decode cX12_say 171 = .ok (.if_icmp .ne 14, 3) := by decide +kernel
theorem dX12_say_174 : decode cX12_say 174 = .ok (.aload_n 0, 1) := by decide +kernel
theorem dX12_say_175 : decode cX12_say 175 = .ok (.iload_n 2, 1) := by decide +kernel
theorem dX12_say_176 : decode cX12_say 176 = .ok (.iload_n 3, 1) := by decide +kernel
theorem dX12_say_177 : decode cX12_say 177 = .ok (.iload 4, 2) := by decide +kernel
theorem dX12_say_179 : decode cX12_say 179 = .ok (.invokevirtual 242, 3) := by decide +kernel
theorem dX12_say_182 : decode cX12_say 182 = .ok (.goto 8, 3) := by decide +kernel
theorem dX12_say_185 : decode cX12_say 185 = .ok (.aload_n 0, 1) := by decide +kernel
theorem dX12_say_186 : decode cX12_say 186 = .ok (.iload_n 3, 1) := by decide +kernel
theorem dX12_say_187 : decode cX12_say 187 = .ok (.invokevirtual 245, 3) := by decide +kernel
theorem dX12_say_190 : decode cX12_say 190 = .ok (.istore 8, 2) := by decide +kernel
theorem dX12_say_192 : decode cX12_say 192 = .ok (.iload 8, 2) := by decide +kernel
theorem dX12_say_194 : decode cX12_say 194 = .ok (.ifCond .eq 6, 3) := by decide +kernel
theorem dX12_say_197 : decode cX12_say 197 = .ok (.bipush (-4), 2) := by decide +kernel
theorem dX12_say_199 : decode cX12_say 199 = .ok (.ireturn, 1) := by decide +kernel
theorem dX12_say_200 : decode cX12_say 200 = .ok (.aload_n 0, 1) := by decide +kernel
theorem dX12_say_201 : decode cX12_say 201 = .ok (.getfield 25, 3) := by decide +kernel
theorem dX12_say_204 : decode cX12_say 204 = .ok (.aload_n 0, 1) := by decide +kernel
theorem dX12_say_205 : decode cX12_say 205 = .ok (.getfield 202, 3) := by decide +kernel
theorem dX12_say_208 : decode cX12_say 208 = .ok (.iload_n 1, 1) := by decide +kernel
theorem dX12_say_209 : decode cX12_say 209 = .ok (.iastore, 1) := by decide +kernel
theorem dX12_say_210 : decode cX12_say 210 = .ok (.aload_n 0, 1) := by decide +kernel
theorem dX12_say_211 : decode cX12_say 211 = .ok (.getfield 28, 3) := by decide +kernel
theorem dX12_say_214 : decode cX12_say 214 = .ok (.aload_n 0, 1) := by decide +kernel
theorem dX12_say_215 : decode cX12_say 215 = .ok (.getfield 202, 3) := by decide +kernel
theorem dX12_say_218 : decode cX12_say 218 = .ok (.iload_n 2, 1) := by decide +kernel
theorem dX12_say_219 : decode cX12_say 219 = .ok (.iastore, 1) := by decide +kernel
theorem dX12_say_220 : decode cX12_say 220 = .ok (.aload_n 0, 1) := by decide +kernel
theorem dX12_say_221 : decode cX12_say 221 = .ok (.getfield 31, 3) := by decide +kernel
theorem dX12_say_224 : decode cX12_say 224 = .ok (.aload_n 0, 1) := by decide +kernel
theorem dX12_say_225 : decode cX12_say 225 = .ok (.getfield 202, 3) := by decide +kernel
theorem dX12_say_228 : decode cX12_say 228 = .ok (.iload_n 3, 1) := by decide +kernel
theorem dX12_say_229 : decode cX12_say 229 = .ok (.iastore, 1) := by decide +kernel
theorem dX12_say_230 : decode cX12_say 230 = .ok (.aload_n 0, 1) := by decide +kernel
theorem dX12_say_231 : decode cX12_say 231 = .ok (.getfield 34, 3) := by decide +kernel
theorem dX12_say_234 : decode cX12_say 234 = .ok (.aload_n 0, 1) := by decide +kernel
theorem dX12_say_235 : decode cX12_say 235 = .ok (.getfield 202, 3) := by decide +kernel
theorem dX12_say_238 : decode cX12_say 238 = .ok (.iload 5, 2) := by decide +kernel
theorem dX12_say_240 : decode cX12_say 240 = .ok (.iastore, 1) := by decide +kernel
theorem dX12_say_241 : decode cX12_say 241 = .ok (.aload_n 0, 1) := by decide +kernel
theorem dX12_say_242 : decode cX12_say 242 = .ok (.getfield 37, 3) := by decide +kernel
theorem dX12_say_245 : decode cX12_say 245 = .ok (.aload_n 0, 1) := by decide +kernel
theorem dX12_say_246 : decode cX12_say 246 = .ok (.getfield 202, 3) := by decide +kernel
theorem dX12_say_249 : decode cX12_say 249 = .ok (.iconst 1, 1) := by decide +kernel
theorem dX12_say_250 : decode cX12_say 250 = .ok (.bastore, 1) := by decide +kernel
theorem dX12_say_251 : decode cX12_say 251 = .ok (.aload_n 0, 1) := by decide +kernel
theorem dX12_say_252 : decode cX12_say 252 = .ok (.dup, 1) := by decide +kernel
theorem dX12_say_253 : decode cX12_say 253 = .ok (.getfield 202, 3) := by decide +kernel
theorem dX12_say_256 : decode cX12_say 256 = .ok (.iconst 1, 1) := by decide +kernel
theorem dX12_say_257 : decode cX12_say 257 = .ok (.iadd, 1) := by decide +kernel
theorem dX12_say_258 : decode cX12_say 258 = .ok (.putfield 202, 3) := by decide +kernel
theorem dX12_say_261 : decode cX12_say 261 = .ok (.aload_n 0, 1) := by decide +kernel
theorem dX12_say_262 : decode cX12_say 262 = .ok (.invokevirtual 172, 3) := by decide +kernel
theorem dX12_say_265 : decode cX12_say 265 = .ok (.aload_n 0, 1) := by decide +kernel
theorem dX12_say_266 : decode cX12_say 266 = .ok (.getfield 202, 3) := by decide +kernel
theorem dX12_say_269 : decode cX12_say 269 = .ok (.iconst 1, 1) := by decide +kernel
theorem dX12_say_270 : decode cX12_say 270 = .ok (.isub, 1) := by decide +kernel
theorem dX12_say_271 : decode cX12_say 271 = .ok (.ireturn, 1) := by decide +kernel
theorem dX12_saidMany_0 : decode cX12_saidMany 0 = .ok (.iconst 0, 1) := by decide +kernel
theorem dX12_saidMany_1 : decode cX12_saidMany 1 = .ok (.istore_n 1, 1) := by decide +kernel
theorem dX12_saidMany_2 : decode cX12_saidMany 2 = .ok (.iconst 0, 1) := by decide +kernel
theorem dX12_saidMany_3 : decode cX12_saidMany 3 = .ok (.istore_n 2, 1) := by decide +kernel
theorem dX12_saidMany_4 : decode cX12_saidMany 4 = .ok (.iload_n 2, 1) := by decide +kernel
theorem dX12_saidMany_5 : decode cX12_saidMany 5 = .ok (.aload_n 0, 1) := by decide +kernel
theorem dX12_saidMany_6 : decode cX12_saidMany 6 = .ok (.getfield 202, 3) := by decide +kernel
theorem dX12_saidMany_9 : decode cX12_saidMany 9 = .ok (.if_icmp .ge 26, 3) := by decide +kernel
theorem dX12_saidMany_12 : decode cX12_saidMany 12 = .ok (.iload_n 1, 1) := by decide +kernel
theorem dX12_saidMany_13 : decode cX12_saidMany 13 = .ok (.aload_n 0, 1) := by decide +kernel
theorem dX12_saidMany_14 : decode cX12_saidMany 14 = .ok (.getfield 37, 3) := by decide +kernel
theorem dX12_saidMany_17 : decode cX12_saidMany 17 = .ok (.iload_n 2, 1) := by decide +kernel
theorem dX12_saidMany_18 : decode cX12_saidMany 18 = .ok (.baload, 1) := by decide +kernel
theorem dX12_saidMany_19 : decode cX12_saidMany 19 = .ok (.ifCond .eq 7, 3) := by decide +kernel
theorem dX12_saidMany_22 : decode cX12_saidMany 22 = .ok (.iconst 1, 1) := by decide +kernel
theorem dX12_saidMany_23 : decode cX12_saidMany 23 = .ok (.goto 4, 3) := by decide +kernel
theorem dX12_saidMany_26 : decode cX12_saidMany 26 = .ok (.iconst 0, 1) := by decide +kernel
theorem dX12_saidMany_27 : decode cX12_saidMany 27 = .ok (.iadd, 1) := by decide +kernel
theorem dX12_saidMany_28 : decode cX12_saidMany 28 = .ok (.istore_n 1, 1) := by decide +kernel
theorem dX12_saidMany_29 : decode cX12_saidMany 29 = .ok (.iinc 2 1, 3) := by decide +kernel
theorem dX12_saidMany_32 : decode cX12_saidMany 32 = .ok (.goto (-28), 3) := by decide +kernel
theorem dX12_saidMany_35 : decode cX12_saidMany 35 = .ok (.iload_n 1, 1) := by decide +kernel
theorem dX12_saidMany_36 : decode cX12_saidMany 36 = .ok (.ireturn, 1) := by decide +kernel
theorem dX12_unsay_0 : decode cX12_unsay 0 = .ok (.iload_n 1, 1) := by decide +kernel
theorem dX12_unsay_1 : decode cX12_unsay 1 = .ok (.i2l, 1) := by decide +kernel
theorem dX12_unsay_2 : decode cX12_unsay 2 = .ok (.lconst 0, 1) := by decide +kernel
theorem dX12_unsay_3 : decode cX12_unsay 3 = .ok (.aload_n 0, 1) := by decide +kernel
theorem dX12_unsay_4 : decode cX12_unsay 4 = .ok (.getfield 202, 3) := by decide +kernel
theorem dX12_unsay_7 : decode cX12_unsay 7 = .ok (.iconst 1, 1) := by decide +kernel
theorem dX12_unsay_8 : decode cX12_unsay 8 = .ok (.isub, 1) := by decide +kernel
theorem dX12_unsay_9 : decode cX12_unsay 9 = .ok (.i2l, 1) := by decide +kernel
theorem dX12_unsay_10 : decode cX12_unsay 10 = .ok (.invokestatic 166, 3) := by decide +kernel
theorem dX12_unsay_13 : decode cX12_unsay 13 = .ok (.ifCond .eq 12, 3) := by decide +kernel
theorem dX12_unsay_16 : decode cX12_unsay 16 = .ok (.aload_n 0, 1) := by decide +kernel
theorem dX12_unsay_17 : decode cX12_unsay 17 = .ok (.getfield 37, 3) := by decide +kernel
theorem dX12_unsay_20 : decode cX12_unsay 20 = .ok (.iload_n 1, 1) := by decide +kernel
theorem dX12_unsay_21 : decode cX12_unsay 21 = .ok (.baload, 1) := by decide +kernel
theorem dX12_unsay_22 : decode cX12_unsay 22 = .ok (.ifCond .ne 5, 3) := by decide +kernel
theorem dX12_unsay_25 : decode cX12_unsay 25 = .ok (.iconst (-1), 1) := by decide +kernel
theorem dX12_unsay_26 : decode cX12_unsay 26 = .ok (.ireturn, 1) := by decide +kernel
theorem dX12_unsay_27 : decode cX12_unsay 27 = .ok (.aload_n 0, 1) := by decide +kernel
theorem dX12_unsay_28 : decode cX12_unsay 28 = .ok (.getfield 37, 3) := by decide +kernel
theorem dX12_unsay_31 : decode cX12_unsay 31 = .ok (.iload_n 1, 1) := by decide +kernel
theorem dX12_unsay_32 : decode cX12_unsay 32 = .ok (.iconst 0, 1) := by decide +kernel
theorem dX12_unsay_33 : decode cX12_unsay 33 = .ok (.bastore, 1) := by decide +kernel
theorem dX12_unsay_34 : decode cX12_unsay 34 = .ok (.aload_n 0, 1) := by decide +kernel
theorem dX12_unsay_35 : decode cX12_unsay 35 = .ok (.invokevirtual 172, 3) := by decide +kernel
theorem dX12_unsay_38 : decode cX12_unsay 38 = .ok (.aload_n 0, 1) := by decide +kernel
theorem dX12_unsay_39 : decode cX12_unsay 39 = .ok (.invokevirtual 248, 3) := by decide +kernel
theorem dX12_unsay_42 : decode cX12_unsay 42 = .ok (.ireturn, 1) := by decide +kernel
theorem dX12_clash_0 : decode cX12_clash 0 = .ok (.iload_n 1, 1) := by decide +kernel
theorem dX12_clash_1 : decode cX12_clash 1 = .ok (.i2l, 1) := by decide +kernel
theorem dX12_clash_2 : decode cX12_clash 2 = .ok (.lconst 0, 1) := by decide +kernel
theorem dX12_clash_3 : decode cX12_clash 3 = .ok (.aload_n 0, 1) := by decide +kernel
theorem dX12_clash_4 : decode cX12_clash 4 = .ok (.getfield 205, 3) := by decide +kernel
theorem dX12_clash_7 : decode cX12_clash 7 = .ok (.iconst 1, 1) := by decide +kernel
theorem dX12_clash_8 : decode cX12_clash 8 = .ok (.isub, 1) := by decide +kernel
theorem dX12_clash_9 : decode cX12_clash 9 = .ok (.i2l, 1) := by decide +kernel
theorem dX12_clash_10 : decode cX12_clash 10 = .ok (.invokestatic 166, 3) := by decide +kernel
theorem dX12_clash_13 : decode cX12_clash 13 = .ok (.ifCond .eq 12, 3) := by decide +kernel
theorem dX12_clash_16 : decode cX12_clash 16 = .ok (.aload_n 0, 1) := by decide +kernel
theorem dX12_clash_17 : decode cX12_clash 17 = .ok (.getfield 41, 3) := by decide +kernel
theorem dX12_clash_20 : decode cX12_clash 20 = .ok (.iload_n 1, 1) := by decide +kernel
theorem dX12_clash_21 : decode cX12_clash 21 = .ok (.iaload, 1) := by decide +kernel
theorem dX12_clash_22 : decode cX12_clash 22 = .ok (.goto 5, 3) := by decide +kernel
theorem dX12_clash_25 : decode cX12_clash 25 = .ok (.bipush (-9), 2) := by decide +kernel
theorem dX12_clash_27 : decode cX12_clash 27 = .ok (.ireturn, 1) := by decide +kernel
theorem dX12_sentence_0 : decode cX12_sentence 0 = .ok (.iload_n 1, 1) := by decide +kernel
theorem dX12_sentence_1 : decode cX12_sentence 1 = .ok (.i2l, 1) := by decide +kernel
theorem dX12_sentence_2 : decode cX12_sentence 2 = .ok (.lconst 0, 1) := by decide +kernel
theorem dX12_sentence_3 : decode cX12_sentence 3 = .ok (.aload_n 0, 1) := by decide +kernel
theorem dX12_sentence_4 : decode cX12_sentence 4 = .ok (.getfield 202, 3) := by decide +kernel
theorem dX12_sentence_7 : decode cX12_sentence 7 = .ok (.iconst 1, 1) := by decide +kernel
theorem dX12_sentence_8 : decode cX12_sentence 8 = .ok (.isub, 1) := by decide +kernel
theorem dX12_sentence_9 : decode cX12_sentence 9 = .ok (.i2l, 1) := by decide +kernel
theorem dX12_sentence_10 : decode cX12_sentence 10 = .ok (.invokestatic 166, 3) := by decide +kernel
theorem dX12_sentence_13 : decode cX12_sentence 13 = .ok (.ifCond .eq 15, 3) := by decide +kernel
theorem dX12_sentence_16 : decode cX12_sentence 16 = .ok (.iload_n 2, 1) := by decide +kernel
theorem dX12_sentence_17 : decode cX12_sentence 17 = .ok (.i2l, 1) := by decide +kernel
theorem dX12_sentence_18 : decode cX12_sentence 18 = .ok (.lconst 0, 1) := by decide +kernel
theorem dX12_sentence_19 : decode cX12_sentence 19 = .ok (.ldc2_w 252, 3) := by decide +kernel
theorem dX12_sentence_22 : decode cX12_sentence 22 = .ok (.invokestatic 166, 3) := by decide +kernel
theorem dX12_sentence_25 : decode cX12_sentence 25 = .ok (.ifCond .ne 5, 3) := by decide +kernel
theorem dX12_sentence_28 : decode cX12_sentence 28 = .ok (.iconst (-1), 1) := by decide +kernel
theorem dX12_sentence_29 : decode cX12_sentence 29 = .ok (.ireturn, 1) := by decide +kernel
theorem dX12_sentence_30 : decode cX12_sentence 30 = .ok (.iload_n 2, 1) := by decide +kernel
theorem dX12_sentence_31 : decode cX12_sentence 31 = .ok (.ifCond .ne 12, 3) := by decide +kernel
theorem dX12_sentence_34 : decode cX12_sentence 34 = .ok (.aload_n 0, 1) := by decide +kernel
theorem dX12_sentence_35 : decode cX12_sentence 35 = .ok (.getfield 25, 3) := by decide +kernel
theorem dX12_sentence_38 : decode cX12_sentence 38 = .ok (.iload_n 1, 1) := by decide +kernel
theorem dX12_sentence_39 : decode cX12_sentence 39 = .ok (.iaload, 1) := by decide +kernel
theorem dX12_sentence_40 : decode cX12_sentence 40 = .ok (.goto 59, 3) := by decide +kernel
theorem dX12_sentence_43 : decode cX12_sentence 43 = .ok (.iload_n 2, 1) := by decide +kernel
theorem dX12_sentence_44 : decode cX12_sentence 44 = .ok (.iconst 1, 1) := by decide +kernel
theorem dX12_sentence_45 : decode cX12_sentence 45 = .ok (.if_icmp .ne 12, 3) := by decide +kernel
theorem dX12_sentence_48 : decode cX12_sentence 48 = .ok (.aload_n 0, 1) := by decide +kernel
theorem dX12_sentence_49 : decode cX12_sentence 49 = .ok (.getfield 28, 3) := by decide +kernel
theorem dX12_sentence_52 : decode cX12_sentence 52 = .ok (.iload_n 1, 1) := by decide +kernel
theorem dX12_sentence_53 : decode cX12_sentence 53 = .ok (.iaload, 1) := by decide +kernel
theorem dX12_sentence_54 : decode cX12_sentence 54 = .ok (.goto 45, 3) := by decide +kernel
theorem dX12_sentence_57 : decode cX12_sentence 57 = .ok (.iload_n 2, 1) := by decide +kernel
theorem dX12_sentence_58 : decode cX12_sentence 58 = .ok (.iconst 2, 1) := by decide +kernel
theorem dX12_sentence_59 : decode cX12_sentence 59 = .ok (.if_icmp .ne 12, 3) := by decide +kernel
theorem dX12_sentence_62 : decode cX12_sentence 62 = .ok (.aload_n 0, 1) := by decide +kernel
theorem dX12_sentence_63 : decode cX12_sentence 63 = .ok (.getfield 31, 3) := by decide +kernel
theorem dX12_sentence_66 : decode cX12_sentence 66 = .ok (.iload_n 1, 1) := by decide +kernel
theorem dX12_sentence_67 : decode cX12_sentence 67 = .ok (.iaload, 1) := by decide +kernel
theorem dX12_sentence_68 : decode cX12_sentence 68 = .ok (.goto 31, 3) := by decide +kernel
theorem dX12_sentence_71 : decode cX12_sentence 71 = .ok (.iload_n 2, 1) := by decide +kernel
theorem dX12_sentence_72 : decode cX12_sentence 72 = .ok (.iconst 3, 1) := by decide +kernel
theorem dX12_sentence_73 : decode cX12_sentence 73 = .ok (.if_icmp .ne 12, 3) := by decide +kernel
theorem dX12_sentence_76 : decode cX12_sentence 76 = .ok (.aload_n 0, 1) := by decide +kernel
theorem dX12_sentence_77 : decode cX12_sentence 77 = .ok (.getfield 34, 3) := by decide +kernel
theorem dX12_sentence_80 : decode cX12_sentence 80 = .ok (.iload_n 1, 1) := by decide +kernel
theorem dX12_sentence_81 : decode cX12_sentence 81 = .ok (.iaload, 1) := by decide +kernel
theorem dX12_sentence_82 : decode cX12_sentence 82 = .ok (.goto 17, 3) := by decide +kernel
theorem dX12_sentence_85 : decode cX12_sentence 85 = .ok (.aload_n 0, 1) := by decide +kernel
theorem dX12_sentence_86 : decode cX12_sentence 86 = .ok (.getfield 37, 3) := by decide +kernel
theorem dX12_sentence_89 : decode cX12_sentence 89 = .ok (.iload_n 1, 1) := by decide +kernel
theorem dX12_sentence_90 : decode cX12_sentence 90 = .ok (.baload, 1) := by decide +kernel
theorem dX12_sentence_91 : decode cX12_sentence 91 = .ok (.ifCond .eq 7, 3) := by decide +kernel
theorem dX12_sentence_94 : decode cX12_sentence 94 = .ok (.iconst 1, 1) := by decide +kernel
theorem dX12_sentence_95 : decode cX12_sentence 95 = .ok (.goto 4, 3) := by decide +kernel
theorem dX12_sentence_98 : decode cX12_sentence 98 = .ok (.iconst 0, 1) := by decide +kernel
theorem dX12_sentence_99 : decode cX12_sentence 99 = .ok (.ireturn, 1) := by decide +kernel
theorem dX12_place_0 : decode cX12_place 0 = .ok (.aload_n 0, 1) := by decide +kernel
theorem dX12_place_1 : decode cX12_place 1 = .ok (.iload_n 1, 1) := by decide +kernel
theorem dX12_place_2 : decode cX12_place 2 = .ok (.invokevirtual 180, 3) := by decide +kernel
theorem dX12_place_5 : decode cX12_place 5 = .ok (.ifCond .eq 15, 3) := by decide +kernel
theorem dX12_place_8 : decode cX12_place 8 = .ok (.iload_n 2, 1) := by decide +kernel
theorem dX12_place_9 : decode cX12_place 9 = .ok (.i2l, 1) := by decide +kernel
theorem dX12_place_10 : decode cX12_place 10 = .ok (.lconst 0, 1) := by decide +kernel
theorem dX12_place_11 : decode cX12_place 11 = .ok (.ldc2_w 254, 3) := by decide +kernel
theorem dX12_place_14 : decode cX12_place 14 = .ok (.invokestatic 166, 3) := by decide +kernel
theorem dX12_place_17 : decode cX12_place 17 = .ok (.ifCond .ne 5, 3) := by decide +kernel
theorem dX12_place_20 : decode cX12_place 20 = .ok (.iconst (-1), 1) := by decide +kernel
theorem dX12_place_21 : decode cX12_place 21 = .ok (.ireturn, 1) := by decide +kernel
theorem dX12_place_22 : decode cX12_place 22 = .ok (.aload_n 0, 1) := by decide +kernel
theorem dX12_place_23 : decode cX12_place 23 = .ok (.iload_n 1, 1) := by decide +kernel
theorem dX12_place_24 : decode cX12_place 24 = .ok (.invokevirtual 208, 3) := by decide +kernel
theorem dX12_place_27 : decode cX12_place 27 = .ok (.istore_n 3, 1) := by decide +kernel
theorem dX12_place_28 : decode cX12_place 28 = .ok (.iload_n 3, 1) := by decide +kernel
theorem dX12_place_29 : decode cX12_place 29 = .ok (.bipush (-9), 2) := by decide +kernel
theorem dX12_place_31 : decode cX12_place 31 = .ok (.if_icmp .ne 8, 3) := by decide +kernel
theorem dX12_place_34 : decode cX12_place 34 = .ok (.bipush (-9), 2) := by decide +kernel
theorem dX12_place_36 : decode cX12_place 36 = .ok (.goto 31, 3) := by decide +kernel
theorem dX12_place_39 : decode cX12_place 39 = .ok (.iload_n 2, 1) := by decide +kernel
theorem dX12_place_40 : decode cX12_place 40 = .ok (.ifCond .ne 12, 3) := by decide +kernel
theorem dX12_place_43 : decode cX12_place 43 = .ok (.aload_n 0, 1) := by decide +kernel
theorem dX12_place_44 : decode cX12_place 44 = .ok (.getfield 25, 3) := by decide +kernel
theorem dX12_place_47 : decode cX12_place 47 = .ok (.iload_n 3, 1) := by decide +kernel
theorem dX12_place_48 : decode cX12_place 48 = .ok (.iaload, 1) := by decide +kernel
theorem dX12_place_49 : decode cX12_place 49 = .ok (.goto 18, 3) := by decide +kernel
theorem dX12_place_52 : decode cX12_place 52 = .ok (.iload_n 2, 1) := by decide +kernel
theorem dX12_place_53 : decode cX12_place 53 = .ok (.iconst 1, 1) := by decide +kernel
theorem dX12_place_54 : decode cX12_place 54 = .ok (.if_icmp .ne 12, 3) := by decide +kernel
theorem dX12_place_57 : decode cX12_place 57 = .ok (.aload_n 0, 1) := by decide +kernel
theorem dX12_place_58 : decode cX12_place 58 = .ok (.getfield 31, 3) := by decide +kernel
theorem dX12_place_61 : decode cX12_place 61 = .ok (.iload_n 3, 1) := by decide +kernel
theorem dX12_place_62 : decode cX12_place 62 = .ok (.iaload, 1) := by decide +kernel
theorem dX12_place_63 : decode cX12_place 63 = .ok (.goto 4, 3) := by decide +kernel
theorem dX12_place_66 : decode cX12_place 66 = .ok (.iload_n 3, 1) := by decide +kernel
theorem dX12_place_67 : decode cX12_place 67 = .ok (.ireturn, 1) := by decide +kernel
theorem dX12_saidFlag_0 : decode cX12_saidFlag 0 = .ok (.aload_n 0, 1) := by decide +kernel
theorem dX12_saidFlag_1 : decode cX12_saidFlag 1 = .ok (.bipush 6, 2) := by decide +kernel
theorem dX12_saidFlag_3 : decode cX12_saidFlag 3 = .ok (.iload_n 1, 1) := by decide +kernel
theorem dX12_saidFlag_4 : decode cX12_saidFlag 4 = .ok (.iload_n 2, 1) := by decide +kernel
theorem dX12_saidFlag_5 : decode cX12_saidFlag 5 = .ok (.iconst 1, 1) := by decide +kernel
theorem dX12_saidFlag_6 : decode cX12_saidFlag 6 = .ok (.invokevirtual 216, 3) := by decide +kernel
theorem dX12_saidFlag_9 : decode cX12_saidFlag 9 = .ok (.bipush (-9), 2) := by decide +kernel
theorem dX12_saidFlag_11 : decode cX12_saidFlag 11 = .ok (.if_icmp .eq 5, 3) := by decide +kernel
theorem dX12_saidFlag_14 : decode cX12_saidFlag 14 = .ok (.iconst 1, 1) := by decide +kernel
theorem dX12_saidFlag_15 : decode cX12_saidFlag 15 = .ok (.ireturn, 1) := by decide +kernel
theorem dX12_saidFlag_16 : decode cX12_saidFlag 16 = .ok (.aload_n 0, 1) := by decide +kernel
theorem dX12_saidFlag_17 : decode cX12_saidFlag 17 = .ok (.bipush 6, 2) := by decide +kernel
theorem dX12_saidFlag_19 : decode cX12_saidFlag 19 = .ok (.iload_n 1, 1) := by decide +kernel
theorem dX12_saidFlag_20 : decode cX12_saidFlag 20 = .ok (.iload_n 2, 1) := by decide +kernel
theorem dX12_saidFlag_21 : decode cX12_saidFlag 21 = .ok (.iconst 0, 1) := by decide +kernel
theorem dX12_saidFlag_22 : decode cX12_saidFlag 22 = .ok (.invokevirtual 216, 3) := by decide +kernel
theorem dX12_saidFlag_25 : decode cX12_saidFlag 25 = .ok (.bipush (-9), 2) := by decide +kernel
theorem dX12_saidFlag_27 : decode cX12_saidFlag 27 = .ok (.if_icmp .eq 5, 3) := by decide +kernel
theorem dX12_saidFlag_30 : decode cX12_saidFlag 30 = .ok (.iconst 0, 1) := by decide +kernel
theorem dX12_saidFlag_31 : decode cX12_saidFlag 31 = .ok (.ireturn, 1) := by decide +kernel
theorem dX12_saidFlag_32 : decode cX12_saidFlag 32 = .ok (.aload_n 0, 1) := by decide +kernel
theorem dX12_saidFlag_33 : decode cX12_saidFlag 33 = .ok (.getfield 19, 3) := by decide +kernel
theorem dX12_saidFlag_36 : decode cX12_saidFlag 36 = .ok (.iload_n 1, 1) := by decide +kernel
theorem dX12_saidFlag_37 : decode cX12_saidFlag 37 = .ok (.iaload, 1) := by decide +kernel
theorem dX12_saidFlag_38 : decode cX12_saidFlag 38 = .ok (.istore_n 3, 1) := by decide +kernel
theorem dX12_saidFlag_39 : decode cX12_saidFlag 39 = .ok (.iload_n 3, 1) := by decide +kernel
theorem dX12_saidFlag_40 : decode cX12_saidFlag 40 = .ok (.bipush (-9), 2) := by decide +kernel
theorem dX12_saidFlag_42 : decode cX12_saidFlag 42 = .ok (.if_icmp .eq 41, 3) := by decide +kernel
theorem dX12_saidFlag_45 : decode cX12_saidFlag 45 = .ok (.aload_n 0, 1) := by decide +kernel
theorem dX12_saidFlag_46 : decode cX12_saidFlag 46 = .ok (.getfield 16, 3) := by decide +kernel
theorem dX12_saidFlag_49 : decode cX12_saidFlag 49 = .ok (.bipush 6, 2) := by decide +kernel
theorem dX12_saidFlag_51 : decode cX12_saidFlag 51 = .ok (.iload_n 3, 1) := by decide +kernel
theorem dX12_saidFlag_52 : decode cX12_saidFlag 52 = .ok (.imul, 1) := by decide +kernel
theorem dX12_saidFlag_53 : decode cX12_saidFlag 53 = .ok (.iload_n 2, 1) := by decide +kernel
theorem dX12_saidFlag_54 : decode cX12_saidFlag 54 = .ok (.iadd, 1) := by decide +kernel
theorem dX12_saidFlag_55 : decode cX12_saidFlag 55 = .ok (.iaload, 1) := by decide +kernel
theorem dX12_saidFlag_56 : decode cX12_saidFlag 56 = .ok (.bipush (-9), 2) := by decide +kernel
theorem dX12_saidFlag_58 : decode cX12_saidFlag 58 = .ok (.if_icmp .eq 15, 3) := by decide +kernel
theorem dX12_saidFlag_61 : decode cX12_saidFlag 61 = .ok (.aload_n 0, 1) := by decide +kernel
theorem dX12_saidFlag_62 : decode cX12_saidFlag 62 = .ok (.getfield 16, 3) := by decide +kernel
theorem dX12_saidFlag_65 : decode cX12_saidFlag 65 = .ok (.bipush 6, 2) := by decide +kernel
theorem dX12_saidFlag_67 : decode cX12_saidFlag 67 = .ok (.iload_n 3, 1) := by decide +kernel
theorem dX12_saidFlag_68 : decode cX12_saidFlag 68 = .ok (.imul, 1) := by decide +kernel
theorem dX12_saidFlag_69 : decode cX12_saidFlag 69 = .ok (.iload_n 2, 1) := by decide +kernel
theorem dX12_saidFlag_70 : decode cX12_saidFlag 70 = .ok (.iadd, 1) := by decide +kernel
theorem dX12_saidFlag_71 : decode cX12_saidFlag 71 = .ok (.iaload, 1) := by decide +kernel
theorem dX12_saidFlag_72 : decode cX12_saidFlag 72 = .ok (.ireturn, 1) := by decide +kernel
theorem dX12_saidFlag_73 : decode cX12_saidFlag 73 = .ok (.aload_n 0, 1) := by decide +kernel
theorem dX12_saidFlag_74 : decode cX12_saidFlag 74 = .ok (.getfield 13, 3) := by decide +kernel
theorem dX12_saidFlag_77 : decode cX12_saidFlag 77 = .ok (.iload_n 3, 1) := by decide +kernel
theorem dX12_saidFlag_78 : decode cX12_saidFlag 78 = .ok (.iaload, 1) := by decide +kernel
theorem dX12_saidFlag_79 : decode cX12_saidFlag 79 = .ok (.istore_n 3, 1) := by decide +kernel
theorem dX12_saidFlag_80 : decode cX12_saidFlag 80 = .ok (.goto (-41), 3) := by decide +kernel
theorem dX12_saidFlag_83 : decode cX12_saidFlag 83 = .ok (.iload_n 2, 1) := by decide +kernel
theorem dX12_saidFlag_84 : decode cX12_saidFlag 84 = .ok (.iconst 2, 1) := by decide +kernel
theorem dX12_saidFlag_85 : decode cX12_saidFlag 85 = .ok (.if_icmp .ne 16, 3) := by decide +kernel
theorem dX12_saidFlag_88 : decode cX12_saidFlag 88 = .ok (.aload_n 0, 1) := by decide +kernel
theorem dX12_saidFlag_89 : decode cX12_saidFlag 89 = .ok (.iload_n 1, 1) := by decide +kernel
theorem dX12_saidFlag_90 : decode cX12_saidFlag 90 = .ok (.iconst 0, 1) := by decide +kernel
theorem dX12_saidFlag_91 : decode cX12_saidFlag 91 = .ok (.invokevirtual 184, 3) := by decide +kernel
theorem dX12_saidFlag_94 : decode cX12_saidFlag 94 = .ok (.ifCond .eq 7, 3) := by decide +kernel
theorem dX12_saidFlag_97 : decode cX12_saidFlag 97 = .ok (.iconst 1, 1) := by decide +kernel
theorem dX12_saidFlag_98 : decode cX12_saidFlag 98 = .ok (.goto 4, 3) := by decide +kernel
theorem dX12_saidFlag_101 : decode cX12_saidFlag 101 = .ok (.iconst 0, 1) := by decide +kernel
theorem dX12_saidFlag_102 : decode cX12_saidFlag 102 = .ok (.ireturn, 1) := by decide +kernel
theorem dX12_flag_0 : decode cX12_flag 0 = .ok (.aload_n 0, 1) := by decide +kernel
theorem dX12_flag_1 : decode cX12_flag 1 = .ok (.iload_n 1, 1) := by decide +kernel
theorem dX12_flag_2 : decode cX12_flag 2 = .ok (.invokevirtual 180, 3) := by decide +kernel
theorem dX12_flag_5 : decode cX12_flag 5 = .ok (.ifCond .eq 15, 3) := by decide +kernel
theorem dX12_flag_8 : decode cX12_flag 8 = .ok (.iload_n 2, 1) := by decide +kernel
theorem dX12_flag_9 : decode cX12_flag 9 = .ok (.i2l, 1) := by decide +kernel
theorem dX12_flag_10 : decode cX12_flag 10 = .ok (.lconst 0, 1) := by decide +kernel
theorem dX12_flag_11 : decode cX12_flag 11 = .ok (.ldc2_w 170, 3) := by decide +kernel
theorem dX12_flag_14 : decode cX12_flag 14 = .ok (.invokestatic 166, 3) := by decide +kernel
theorem dX12_flag_17 : decode cX12_flag 17 = .ok (.ifCond .ne 5, 3) := by decide +kernel
theorem dX12_flag_20 : decode cX12_flag 20 = .ok (.iconst (-1), 1) := by decide +kernel
theorem dX12_flag_21 : decode cX12_flag 21 = .ok (.ireturn, 1) := by decide +kernel
theorem dX12_flag_22 : decode cX12_flag 22 = .ok (.aload_n 0, 1) := by decide +kernel
theorem dX12_flag_23 : decode cX12_flag 23 = .ok (.iload_n 1, 1) := by decide +kernel
theorem dX12_flag_24 : decode cX12_flag 24 = .ok (.iload_n 2, 1) := by decide +kernel
theorem dX12_flag_25 : decode cX12_flag 25 = .ok (.invokevirtual 199, 3) := by decide +kernel
theorem dX12_flag_28 : decode cX12_flag 28 = .ok (.ifCond .eq 12, 3) := by decide +kernel
theorem dX12_flag_31 : decode cX12_flag 31 = .ok (.aload_n 0, 1) := by decide +kernel
theorem dX12_flag_32 : decode cX12_flag 32 = .ok (.iload_n 1, 1) := by decide +kernel
theorem dX12_flag_33 : decode cX12_flag 33 = .ok (.iload_n 2, 1) := by decide +kernel
theorem dX12_flag_34 : decode cX12_flag 34 = .ok (.invokevirtual 256, 3) := by decide +kernel
theorem dX12_flag_37 : decode cX12_flag 37 = .ok (.goto 8, 3) := by decide +kernel
theorem dX12_flag_40 : decode cX12_flag 40 = .ok (.aload_n 0, 1) := by decide +kernel
theorem dX12_flag_41 : decode cX12_flag 41 = .ok (.iconst 3, 1) := by decide +kernel
theorem dX12_flag_42 : decode cX12_flag 42 = .ok (.invokevirtual 233, 3) := by decide +kernel
theorem dX12_flag_45 : decode cX12_flag 45 = .ok (.ireturn, 1) := by decide +kernel
theorem dX12_keyOf_0 : decode cX12_keyOf 0 = .ok (.iconst 0, 1) := by decide +kernel
theorem dX12_keyOf_1 : decode cX12_keyOf 1 = .ok (.istore_n 2, 1) := by decide +kernel
theorem dX12_keyOf_2 : decode cX12_keyOf 2 = .ok (.iload_n 2, 1) := by decide +kernel
theorem dX12_keyOf_3 : decode cX12_keyOf 3 = .ok (.aload_n 0, 1) := by decide +kernel
theorem dX12_keyOf_4 : decode cX12_keyOf 4 = .ok (.getfield 202, 3) := by decide +kernel
theorem dX12_keyOf_7 : decode cX12_keyOf 7 = .ok (.if_icmp .ge 46, 3) := by decide +kernel
theorem dX12_keyOf_10 : decode cX12_keyOf 10 = .ok (.aload_n 0, 1) := by decide +kernel
theorem dX12_keyOf_11 : decode cX12_keyOf 11 = .ok (.getfield 37, 3) := by decide +kernel
theorem dX12_keyOf_14 : decode cX12_keyOf 14 = .ok (.iload_n 2, 1) := by decide +kernel
theorem dX12_keyOf_15 : decode cX12_keyOf 15 = .ok (.baload, 1) := by decide +kernel
theorem dX12_keyOf_16 : decode cX12_keyOf 16 = .ok (.ifCond .eq 31, 3) := by decide +kernel
theorem dX12_keyOf_19 : decode cX12_keyOf 19 = .ok (.aload_n 0, 1) := by decide +kernel
theorem dX12_keyOf_20 : decode cX12_keyOf 20 = .ok (.getfield 25, 3) := by decide +kernel
theorem dX12_keyOf_23 : decode cX12_keyOf 23 = .ok (.iload_n 2, 1) := by decide +kernel
theorem dX12_keyOf_24 : decode cX12_keyOf 24 = .ok (.iaload, 1) := by decide +kernel
theorem dX12_keyOf_25 : decode cX12_keyOf 25 = .ok (.bipush 7, 2) := by decide +kernel
theorem dX12_keyOf_27 : decode cX12_keyOf 27 = .ok (.if_icmp .ne 20, 3) := by decide +kernel
theorem dX12_keyOf_30 : decode cX12_keyOf 30 = .ok (.aload_n 0, 1) := by decide +kernel
theorem dX12_keyOf_31 : decode cX12_keyOf 31 = .ok (.getfield 31, 3) := by decide +kernel
theorem dX12_keyOf_34 : decode cX12_keyOf 34 = .ok (.iload_n 2, 1) := by decide +kernel
theorem dX12_keyOf_35 : decode cX12_keyOf 35 = .ok (.iaload, 1) := by decide +kernel
theorem dX12_keyOf_36 : decode cX12_keyOf 36 = .ok (.iload_n 1, 1) := by decide +kernel
theorem dX12_keyOf_37 : decode cX12_keyOf 37 = .ok (.if_icmp .ne 10, 3) := by decide +kernel
theorem dX12_keyOf_40 : decode cX12_keyOf 40 = .ok (.aload_n 0, 1) := by decide +kernel
theorem dX12_keyOf_41 : decode cX12_keyOf 41 = .ok (.getfield 28, 3) := by decide +kernel
theorem dX12_keyOf_44 : decode cX12_keyOf 44 = .ok (.iload_n 2, 1) := by decide +kernel
theorem dX12_keyOf_45 : decode cX12_keyOf 45 = .ok (.iaload, 1) := by decide +kernel
theorem dX12_keyOf_46 : decode cX12_keyOf 46 = .ok (.ireturn, 1) := by decide +kernel
theorem dX12_keyOf_47 : decode cX12_keyOf 47 = .ok (.iinc 2 1, 3) := by decide +kernel
theorem dX12_keyOf_50 : decode cX12_keyOf 50 = .ok (.goto (-48), 3) := by decide +kernel
theorem dX12_keyOf_53 : decode cX12_keyOf 53 = .ok (.bipush (-9), 2) := by decide +kernel
theorem dX12_keyOf_55 : decode cX12_keyOf 55 = .ok (.ireturn, 1) := by decide +kernel
theorem dX12_key_0 : decode cX12_key 0 = .ok (.aload_n 0, 1) := by decide +kernel
theorem dX12_key_1 : decode cX12_key 1 = .ok (.iload_n 1, 1) := by decide +kernel
theorem dX12_key_2 : decode cX12_key 2 = .ok (.invokevirtual 180, 3) := by decide +kernel
theorem dX12_key_5 : decode cX12_key 5 = .ok (.ifCond .ne 7, 3) := by decide +kernel
theorem dX12_key_8 : decode cX12_key 8 = .ok (.iconst (-1), 1) := by decide +kernel
theorem dX12_key_9 : decode cX12_key 9 = .ok (.goto 24, 3) := by decide +kernel
theorem dX12_key_12 : decode cX12_key 12 = .ok (.aload_n 0, 1) := by decide +kernel
theorem dX12_key_13 : decode cX12_key 13 = .ok (.iload_n 1, 1) := by decide +kernel
theorem dX12_key_14 : decode cX12_key 14 = .ok (.invokevirtual 191, 3) := by decide +kernel
theorem dX12_key_17 : decode cX12_key 17 = .ok (.ifCond .eq 11, 3) := by decide +kernel
theorem dX12_key_20 : decode cX12_key 20 = .ok (.aload_n 0, 1) := by decide +kernel
theorem dX12_key_21 : decode cX12_key 21 = .ok (.iload_n 1, 1) := by decide +kernel
theorem dX12_key_22 : decode cX12_key 22 = .ok (.invokevirtual 260, 3) := by decide +kernel
theorem dX12_key_25 : decode cX12_key 25 = .ok (.goto 8, 3) := by decide +kernel
theorem dX12_key_28 : decode cX12_key 28 = .ok (.aload_n 0, 1) := by decide +kernel
theorem dX12_key_29 : decode cX12_key 29 = .ok (.iconst 3, 1) := by decide +kernel
theorem dX12_key_30 : decode cX12_key 30 = .ok (.invokevirtual 233, 3) := by decide +kernel
theorem dX12_key_33 : decode cX12_key 33 = .ok (.ireturn, 1) := by decide +kernel
theorem dX12_findExit_0 : decode cX12_findExit 0 = .ok (.aload_n 0, 1) := by decide +kernel
theorem dX12_findExit_1 : decode cX12_findExit 1 = .ok (.bipush (-9), 2) := by decide +kernel
theorem dX12_findExit_3 : decode cX12_findExit 3 = .ok (.putfield 263, 3) := by decide +kernel
theorem dX12_findExit_6 : decode cX12_findExit 6 = .ok (.aload_n 0, 1) := by decide +kernel
theorem dX12_findExit_7 : decode cX12_findExit 7 = .ok (.bipush (-9), 2) := by decide +kernel
theorem dX12_findExit_9 : decode cX12_findExit 9 = .ok (.putfield 266, 3) := by decide +kernel
theorem dX12_findExit_12 : decode cX12_findExit 12 = .ok (.aload_n 0, 1) := by decide +kernel
theorem dX12_findExit_13 : decode cX12_findExit 13 = .ok (.bipush (-9), 2) := by decide +kernel
theorem dX12_findExit_15 : decode cX12_findExit 15 = .ok (.putfield 269, 3) := by decide +kernel
theorem dX12_findExit_18 : decode cX12_findExit 18 = .ok (.aload_n 0, 1) := by decide +kernel
theorem dX12_findExit_19 : decode cX12_findExit 19 = .ok (.iconst 0, 1) := by decide +kernel
theorem dX12_findExit_20 : decode cX12_findExit 20 = .ok (.putfield 272, 3) := by decide +kernel
theorem dX12_findExit_23 : decode cX12_findExit 23 = .ok (.iload_n 2, 1) := by decide +kernel
theorem dX12_findExit_24 : decode cX12_findExit 24 = .ok (.iconst 2, 1) := by decide +kernel
theorem dX12_findExit_25 : decode cX12_findExit 25 = .ok (.irem, 1) := by decide +kernel
theorem dX12_findExit_26 : decode cX12_findExit 26 = .ok (.ifCond .ne 9, 3) := by decide +kernel
theorem dX12_findExit_29 : decode cX12_findExit 29 = .ok (.iload_n 2, 1) := by decide +kernel
theorem dX12_findExit_30 : decode cX12_findExit 30 = .ok (.iconst 1, 1) := by decide +kernel
theorem dX12_findExit_31 : decode cX12_findExit 31 = .ok (.iadd, 1) := by decide +kernel
theorem dX12_findExit_32 : decode cX12_findExit 32 = .ok (.goto 6, 3) := by decide +kernel
theorem dX12_findExit_35 : decode cX12_findExit 35 = .ok (.iload_n 2, 1) := by decide +kernel
theorem dX12_findExit_36 : decode cX12_findExit 36 = .ok (.iconst 1, 1) := by decide +kernel
theorem dX12_findExit_37 : decode cX12_findExit 37 = .ok (.isub, 1) := by decide +kernel
theorem dX12_findExit_38 : decode cX12_findExit 38 = .ok (.istore_n 3, 1) := by decide +kernel
theorem dX12_findExit_39 : decode cX12_findExit 39 = .ok (.bipush (-9), 2) := by decide +kernel
theorem dX12_findExit_41 : decode cX12_findExit 41 = .ok (.istore 4, 2) := by decide +kernel
theorem dX12_findExit_43 : decode cX12_findExit 43 = .ok (.iconst 0, 1) := by decide +kernel
theorem dX12_findExit_44 : decode cX12_findExit 44 = .ok (.istore 5, 2) := by decide +kernel
theorem dX12_findExit_46 : decode cX12_findExit 46 = .ok (.iload 5, 2) := by decide +kernel
theorem dX12_findExit_48 : decode cX12_findExit 48 = .ok (.aload_n 0, 1) := by decide +kernel
theorem dX12_findExit_49 : decode cX12_findExit 49 = .ok (.getfield 202, 3) := by decide +kernel
theorem dX12_findExit_52 : decode cX12_findExit 52 = .ok (.if_icmp .ge 112, 3) := by decide +kernel
theorem dX12_findExit_55 : decode cX12_findExit 55 = .ok (.aload_n 0, 1) := by decide +kernel
theorem dX12_findExit_56 : decode cX12_findExit 56 = .ok (.getfield 37, 3) := by decide +kernel
theorem dX12_findExit_59 : decode cX12_findExit 59 = .ok (.iload 5, 2) := by decide +kernel
theorem dX12_findExit_61 : decode cX12_findExit 61 = .ok (.baload, 1) := by decide +kernel
theorem dX12_findExit_62 : decode cX12_findExit 62 = .ok (.ifCond .eq 42, 3) := by decide +kernel
theorem dX12_findExit_65 : decode cX12_findExit 65 = .ok (.aload_n 0, 1) := by decide +kernel
theorem dX12_findExit_66 : decode cX12_findExit 66 = .ok (.getfield 25, 3) := by decide +kernel
theorem dX12_findExit_69 : decode cX12_findExit 69 = .ok (.iload 5, 2) := by decide +kernel
theorem dX12_findExit_71 : decode cX12_findExit 71 = .ok (.iaload, 1) := by decide +kernel
theorem dX12_findExit_72 : decode cX12_findExit 72 = .ok (.iconst 5, 1) := by decide +kernel
theorem dX12_findExit_73 : decode cX12_findExit 73 = .ok (.if_icmp .ne 31, 3) := by decide +kernel
theorem dX12_findExit_76 : decode cX12_findExit 76 = .ok (.aload_n 0, 1) := by decide +kernel
theorem dX12_findExit_77 : decode cX12_findExit 77 = .ok (.getfield 28, 3) := by decide +kernel
theorem dX12_findExit_80 : decode cX12_findExit 80 = .ok (.iload 5, 2) := by decide +kernel
theorem dX12_findExit_82 : decode cX12_findExit 82 = .ok (.iaload, 1) := by decide +kernel
theorem dX12_findExit_83 : decode cX12_findExit 83 = .ok (.iload_n 1, 1) := by decide +kernel
theorem dX12_findExit_84 : decode cX12_findExit 84 = .ok (.if_icmp .ne 20, 3) := by decide +kernel
theorem dX12_findExit_87 : decode cX12_findExit 87 = .ok (.aload_n 0, 1) := by decide +kernel
theorem dX12_findExit_88 : decode cX12_findExit 88 = .ok (.getfield 34, 3) := by decide +kernel
theorem dX12_findExit_91 : decode cX12_findExit 91 = .ok (.iload 5, 2) := by decide +kernel
theorem dX12_findExit_93 : decode cX12_findExit 93 = .ok (.iaload, 1) := by decide +kernel
theorem dX12_findExit_94 : decode cX12_findExit 94 = .ok (.iload_n 2, 1) := by decide +kernel
theorem dX12_findExit_95 : decode cX12_findExit 95 = .ok (.if_icmp .ne 9, 3) := by decide +kernel
theorem dX12_findExit_98 : decode cX12_findExit 98 = .ok (.aload_n 0, 1) := by decide +kernel
theorem dX12_findExit_99 : decode cX12_findExit 99 = .ok (.iload 5, 2) := by decide +kernel
theorem dX12_findExit_101 : decode cX12_findExit 101 = .ok (.putfield 269, 3) := by decide +kernel
theorem dX12_findExit_104 : decode cX12_findExit 104 = .ok (.aload_n 0, 1) := by decide +kernel
theorem dX12_findExit_105 : decode cX12_findExit 105 = .ok (.getfield 37, 3) := by decide +kernel
theorem dX12_findExit_108 : decode cX12_findExit 108 = .ok (.iload 5, 2) := by decide +kernel
theorem dX12_findExit_110 : decode cX12_findExit 110 = .ok (.baload, 1) := by decide +kernel
theorem dX12_findExit_111 : decode cX12_findExit 111 = .ok (.ifCond .eq 47, 3) := by decide +kernel
theorem dX12_findExit_114 : decode cX12_findExit 114 = .ok (.aload_n 0, 1) := by decide +kernel
theorem dX12_findExit_115 : decode cX12_findExit 115 = .ok (.getfield 25, 3) := by decide +kernel
theorem dX12_findExit_118 : decode cX12_findExit 118 = .ok (.iload 5, 2) := by decide +kernel
theorem dX12_findExit_120 : decode cX12_findExit 120 = .ok (.iaload, 1) := by decide +kernel
theorem dX12_findExit_121 : decode cX12_findExit 121 = .ok (.iconst 5, 1) := by decide +kernel
theorem dX12_findExit_122 : decode cX12_findExit 122 = .ok (.if_icmp .ne 36, 3) := by decide +kernel
theorem dX12_findExit_125 : decode cX12_findExit 125 = .ok (.aload_n 0, 1) := by decide +kernel
theorem dX12_findExit_126 : decode cX12_findExit 126 = .ok (.getfield 31, 3) := by decide +kernel
theorem dX12_findExit_129 : decode cX12_findExit 129 = .ok (.iload 5, 2) := by decide +kernel
theorem dX12_findExit_131 : decode cX12_findExit 131 = .ok (.iaload, 1) := by decide +kernel
theorem dX12_findExit_132 : decode cX12_findExit 132 = .ok (.iload_n 1, 1) := by decide +kernel
theorem dX12_findExit_133 : decode cX12_findExit 133 = .ok (.if_icmp .ne 25, 3) := by decide +kernel
theorem dX12_findExit_136 : decode cX12_findExit 136 = .ok (.aload_n 0, 1) := by decide +kernel
theorem dX12_findExit_137 : decode cX12_findExit 137 = .ok (.getfield 34, 3) := by decide +kernel
theorem dX12_findExit_140 : decode cX12_findExit 140 = .ok (.iload 5, 2) := by decide +kernel
theorem dX12_findExit_142 : decode cX12_findExit 142 = .ok (.iaload, 1) := by decide +kernel
theorem dX12_findExit_143 : decode cX12_findExit 143 = .ok (.iload_n 3, 1) := by decide +kernel
theorem dX12_findExit_144 : decode cX12_findExit 144 = .ok (.if_icmp .ne 14, 3) := by decide +kernel
theorem dX12_findExit_147 : decode cX12_findExit 147 = .ok (.iload 4, 2) := by decide +kernel
theorem dX12_findExit_149 : decode cX12_findExit 149 = .ok (.bipush (-9), 2) := by decide +kernel
theorem dX12_findExit_151 : decode cX12_findExit 151 = .ok (.if_icmp .ne 7, 3) := by decide +kernel
theorem dX12_findExit_154 : decode cX12_findExit 154 = .ok (.iload 5, 2) := by decide +kernel
theorem dX12_findExit_156 : decode cX12_findExit 156 = .ok (.istore 4, 2) := by decide +kernel
theorem dX12_findExit_158 : decode cX12_findExit 158 = .ok (.iinc 5 1, 3) := by decide +kernel
theorem dX12_findExit_161 : decode cX12_findExit 161 = .ok (.goto (-115), 3) := by decide +kernel
theorem dX12_findExit_164 : decode cX12_findExit 164 = .ok (.aload_n 0, 1) := by decide +kernel
theorem dX12_findExit_165 : decode cX12_findExit 165 = .ok (.getfield 269, 3) := by decide +kernel
theorem dX12_findExit_168 : decode cX12_findExit 168 = .ok (.bipush (-9), 2) := by decide +kernel
theorem dX12_findExit_170 : decode cX12_findExit 170 = .ok (.if_icmp .eq 49, 3) := by decide +kernel
theorem dX12_findExit_173 : decode cX12_findExit 173 = .ok (.aload_n 0, 1) := by decide +kernel
theorem dX12_findExit_174 : decode cX12_findExit 174 = .ok (.aload_n 0, 1) := by decide +kernel
theorem dX12_findExit_175 : decode cX12_findExit 175 = .ok (.getfield 31, 3) := by decide +kernel
theorem dX12_findExit_178 : decode cX12_findExit 178 = .ok (.aload_n 0, 1) := by decide +kernel
theorem dX12_findExit_179 : decode cX12_findExit 179 = .ok (.getfield 269, 3) := by decide +kernel
theorem dX12_findExit_182 : decode cX12_findExit 182 = .ok (.iaload, 1) := by decide +kernel
theorem dX12_findExit_183 : decode cX12_findExit 183 = .ok (.iconst 2, 1) := by decide +kernel
theorem dX12_findExit_184 : decode cX12_findExit 184 = .ok (.invokevirtual 184, 3) := by decide +kernel
theorem dX12_findExit_187 : decode cX12_findExit 187 = .ok (.ifCond .eq 32, 3) := by decide +kernel
theorem dX12_findExit_190 : decode cX12_findExit 190 = .ok (.aload_n 0, 1) := by decide +kernel
theorem dX12_findExit_191 : decode cX12_findExit 191 = .ok (.aload_n 0, 1) := by decide +kernel
theorem dX12_findExit_192 : decode cX12_findExit 192 = .ok (.getfield 31, 3) := by decide +kernel
theorem dX12_findExit_195 : decode cX12_findExit 195 = .ok (.aload_n 0, 1) := by decide +kernel
theorem dX12_findExit_196 : decode cX12_findExit 196 = .ok (.getfield 269, 3) := by decide +kernel
theorem dX12_findExit_199 : decode cX12_findExit 199 = .ok (.iaload, 1) := by decide +kernel
theorem dX12_findExit_200 : decode cX12_findExit 200 = .ok (.putfield 266, 3) := by decide +kernel
theorem dX12_findExit_203 : decode cX12_findExit 203 = .ok (.aload_n 0, 1) := by decide +kernel
theorem dX12_findExit_204 : decode cX12_findExit 204 = .ok (.aload_n 0, 1) := by decide +kernel
theorem dX12_findExit_205 : decode cX12_findExit 205 = .ok (.aload_n 0, 1) := by decide +kernel
theorem dX12_findExit_206 : decode cX12_findExit 206 = .ok (.getfield 266, 3) := by decide +kernel
theorem dX12_findExit_209 : decode cX12_findExit 209 = .ok (.iload_n 1, 1) := by decide +kernel
theorem dX12_findExit_210 : decode cX12_findExit 210 = .ok (.invokevirtual 276, 3) := by decide +kernel
theorem dX12_findExit_213 : decode cX12_findExit 213 = .ok (.putfield 263, 3) := by decide +kernel
theorem dX12_findExit_216 : decode cX12_findExit 216 = .ok (.goto 57, 3) := by decide +kernel
theorem dX12_findExit_219 : decode cX12_findExit 219 = .ok (.aload_n 0, 1) := by decide +kernel
theorem dX12_findExit_220 : decode cX12_findExit 220 = .ok (.getfield 269, 3) := by decide +kernel
theorem dX12_findExit_223 : decode cX12_findExit 223 = .ok (.bipush (-9), 2) := by decide +kernel
theorem dX12_findExit_225 : decode cX12_findExit 225 = .ok (.if_icmp .eq 19, 3) := by decide +kernel
theorem dX12_findExit_228 : decode cX12_findExit 228 = .ok (.aload_n 0, 1) := by decide +kernel
theorem dX12_findExit_229 : decode cX12_findExit 229 = .ok (.aload_n 0, 1) := by decide +kernel
theorem dX12_findExit_230 : decode cX12_findExit 230 = .ok (.getfield 31, 3) := by decide +kernel
theorem dX12_findExit_233 : decode cX12_findExit 233 = .ok (.aload_n 0, 1) := by decide +kernel
theorem dX12_findExit_234 : decode cX12_findExit 234 = .ok (.getfield 269, 3) := by decide +kernel
theorem dX12_findExit_237 : decode cX12_findExit 237 = .ok (.iaload, 1) := by decide +kernel
theorem dX12_findExit_238 : decode cX12_findExit 238 = .ok (.putfield 263, 3) := by decide +kernel
theorem dX12_findExit_241 : decode cX12_findExit 241 = .ok (.goto 32, 3) := by decide +kernel
theorem dX12_findExit_244 : decode cX12_findExit 244 = .ok (.iload 4, 2) := by decide +kernel
theorem dX12_findExit_246 : decode cX12_findExit 246 = .ok (.bipush (-9), 2) := by decide +kernel
theorem dX12_findExit_248 : decode cX12_findExit 248 = .ok (.if_icmp .eq 25, 3) := by decide +kernel
theorem dX12_findExit_251 : decode cX12_findExit 251 = .ok (.aload_n 0, 1) := by decide +kernel
theorem dX12_findExit_252 : decode cX12_findExit 252 = .ok (.iload 4, 2) := by decide +kernel
theorem dX12_findExit_254 : decode cX12_findExit 254 = .ok (.putfield 269, 3) := by decide +kernel
theorem dX12_findExit_257 : decode cX12_findExit 257 = .ok (.aload_n 0, 1) := by decide +kernel
theorem dX12_findExit_258 : decode cX12_findExit 258 = .ok (.iconst 1, 1) := by decide +kernel
theorem dX12_findExit_259 : decode cX12_findExit 259 = .ok (.putfield 272, 3) := by decide +kernel
theorem dX12_findExit_262 : decode cX12_findExit 262 = .ok (.aload_n 0, 1) := by decide +kernel
theorem dX12_findExit_263 : decode cX12_findExit 263 = .ok (.aload_n 0, 1) := by decide +kernel
theorem dX12_findExit_264 : decode cX12_findExit 264 = .ok (.getfield 28, 3) := by decide +kernel
theorem dX12_findExit_267 : decode cX12_findExit 267 = .ok (.iload 4, 2) := by decide +kernel
theorem dX12_findExit_269 : decode cX12_findExit 269 = .ok (.iaload, 1) := by decide +kernel
theorem dX12_findExit_270 : decode cX12_findExit 270 = .ok (.putfield 263, 3) := by decide +kernel
theorem dX12_findExit_273 : decode cX12_findExit 273 = .ok (.aload_n 0, 1) := by decide +kernel
theorem dX12_findExit_274 : decode cX12_findExit 274 = .ok (.getfield 269, 3) := by decide +kernel
theorem dX12_findExit_277 : decode cX12_findExit 277 = .ok (.bipush (-9), 2) := by decide +kernel
theorem dX12_findExit_279 : decode cX12_findExit 279 = .ok (.if_icmp .eq 7, 3) := by decide +kernel
theorem dX12_findExit_282 : decode cX12_findExit 282 = .ok (.iconst 1, 1) := by decide +kernel
theorem dX12_findExit_283 : decode cX12_findExit 283 = .ok (.goto 4, 3) := by decide +kernel
theorem dX12_findExit_286 : decode cX12_findExit 286 = .ok (.iconst 0, 1) := by decide +kernel
theorem dX12_findExit_287 : decode cX12_findExit 287 = .ok (.ireturn, 1) := by decide +kernel
theorem dX12_otherSide_0 : decode cX12_otherSide 0 = .ok (.iconst 0, 1) := by decide +kernel
theorem dX12_otherSide_1 : decode cX12_otherSide 1 = .ok (.istore_n 3, 1) := by decide +kernel
theorem dX12_otherSide_2 : decode cX12_otherSide 2 = .ok (.iload_n 3, 1) := by decide +kernel
theorem dX12_otherSide_3 : decode cX12_otherSide 3 = .ok (.aload_n 0, 1) := by decide +kernel
theorem dX12_otherSide_4 : decode cX12_otherSide 4 = .ok (.getfield 202, 3) := by decide +kernel
theorem dX12_otherSide_7 : decode cX12_otherSide 7 = .ok (.if_icmp .ge 55, 3) := by decide +kernel
theorem dX12_otherSide_10 : decode cX12_otherSide 10 = .ok (.aload_n 0, 1) := by decide +kernel
theorem dX12_otherSide_11 : decode cX12_otherSide 11 = .ok (.getfield 37, 3) := by decide +kernel
theorem dX12_otherSide_14 : decode cX12_otherSide 14 = .ok (.iload_n 3, 1) := by decide +kernel
theorem dX12_otherSide_15 : decode cX12_otherSide 15 = .ok (.baload, 1) := by decide +kernel
theorem dX12_otherSide_16 : decode cX12_otherSide 16 = .ok (.ifCond .eq 40, 3) := by decide +kernel
theorem dX12_otherSide_19 : decode cX12_otherSide 19 = .ok (.aload_n 0, 1) := by decide +kernel
theorem dX12_otherSide_20 : decode cX12_otherSide 20 = .ok (.getfield 25, 3) := by decide +kernel
theorem dX12_otherSide_23 : decode cX12_otherSide 23 = .ok (.iload_n 3, 1) := by decide +kernel
theorem dX12_otherSide_24 : decode cX12_otherSide 24 = .ok (.iaload, 1) := by decide +kernel
theorem dX12_otherSide_25 : decode cX12_otherSide 25 = .ok (.iconst 5, 1) := by decide +kernel
theorem dX12_otherSide_26 : decode cX12_otherSide 26 = .ok (.if_icmp .ne 30, 3) := by decide +kernel
theorem dX12_otherSide_29 : decode cX12_otherSide 29 = .ok (.aload_n 0, 1) := by decide +kernel
theorem dX12_otherSide_30 : decode cX12_otherSide 30 = .ok (.getfield 31, 3) := by decide +kernel
theorem dX12_otherSide_33 : decode cX12_otherSide 33 = .ok (.iload_n 3, 1) := by decide +kernel
theorem dX12_otherSide_34 : decode cX12_otherSide 34 = .ok (.iaload, 1) := by decide +kernel
theorem dX12_otherSide_35 : decode cX12_otherSide 35 = .ok (.iload_n 1, 1) := by decide +kernel
theorem dX12_otherSide_36 : decode cX12_otherSide 36 = .ok (.if_icmp .ne 20, 3) := by decide +kernel
theorem dX12_otherSide_39 : decode cX12_otherSide 39 = .ok (.aload_n 0, 1) := by decide +kernel
theorem dX12_otherSide_40 : decode cX12_otherSide 40 = .ok (.getfield 28, 3) := by decide +kernel
theorem dX12_otherSide_43 : decode cX12_otherSide 43 = .ok (.iload_n 3, 1) := by decide +kernel
theorem dX12_otherSide_44 : decode cX12_otherSide 44 = .ok (.iaload, 1) := by decide +kernel
theorem dX12_otherSide_45 : decode cX12_otherSide 45 = .ok (.iload_n 2, 1) := by decide +kernel
theorem dX12_otherSide_46 : decode cX12_otherSide 46 = .ok (.if_icmp .eq 10, 3) := by decide +kernel
theorem dX12_otherSide_49 : decode cX12_otherSide 49 = .ok (.aload_n 0, 1) := by decide +kernel
theorem dX12_otherSide_50 : decode cX12_otherSide 50 = .ok (.getfield 28, 3) := by decide +kernel
theorem dX12_otherSide_53 : decode cX12_otherSide 53 = .ok (.iload_n 3, 1) := by decide +kernel
theorem dX12_otherSide_54 : decode cX12_otherSide 54 = .ok (.iaload, 1) := by decide +kernel
theorem dX12_otherSide_55 : decode cX12_otherSide 55 = .ok (.ireturn, 1) := by decide +kernel
theorem dX12_otherSide_56 : decode cX12_otherSide 56 = .ok (.iinc 3 1, 3) := by decide +kernel
theorem dX12_otherSide_59 : decode cX12_otherSide 59 = .ok (.goto (-57), 3) := by decide +kernel
theorem dX12_otherSide_62 : decode cX12_otherSide 62 = .ok (.bipush (-9), 2) := by decide +kernel
theorem dX12_otherSide_64 : decode cX12_otherSide 64 = .ok (.ireturn, 1) := by decide +kernel
theorem dX12_isSide_0 : decode cX12_isSide 0 = .ok (.iconst 0, 1) := by decide +kernel
theorem dX12_isSide_1 : decode cX12_isSide 1 = .ok (.istore_n 3, 1) := by decide +kernel
theorem dX12_isSide_2 : decode cX12_isSide 2 = .ok (.iload_n 3, 1) := by decide +kernel
theorem dX12_isSide_3 : decode cX12_isSide 3 = .ok (.aload_n 0, 1) := by decide +kernel
theorem dX12_isSide_4 : decode cX12_isSide 4 = .ok (.getfield 202, 3) := by decide +kernel
theorem dX12_isSide_7 : decode cX12_isSide 7 = .ok (.if_icmp .ge 50, 3) := by decide +kernel
theorem dX12_isSide_10 : decode cX12_isSide 10 = .ok (.aload_n 0, 1) := by decide +kernel
theorem dX12_isSide_11 : decode cX12_isSide 11 = .ok (.getfield 37, 3) := by decide +kernel
theorem dX12_isSide_14 : decode cX12_isSide 14 = .ok (.iload_n 3, 1) := by decide +kernel
theorem dX12_isSide_15 : decode cX12_isSide 15 = .ok (.baload, 1) := by decide +kernel
theorem dX12_isSide_16 : decode cX12_isSide 16 = .ok (.ifCond .eq 35, 3) := by decide +kernel
theorem dX12_isSide_19 : decode cX12_isSide 19 = .ok (.aload_n 0, 1) := by decide +kernel
theorem dX12_isSide_20 : decode cX12_isSide 20 = .ok (.getfield 25, 3) := by decide +kernel
theorem dX12_isSide_23 : decode cX12_isSide 23 = .ok (.iload_n 3, 1) := by decide +kernel
theorem dX12_isSide_24 : decode cX12_isSide 24 = .ok (.iaload, 1) := by decide +kernel
theorem dX12_isSide_25 : decode cX12_isSide 25 = .ok (.iconst 5, 1) := by decide +kernel
theorem dX12_isSide_26 : decode cX12_isSide 26 = .ok (.if_icmp .ne 25, 3) := by decide +kernel
theorem dX12_isSide_29 : decode cX12_isSide 29 = .ok (.aload_n 0, 1) := by decide +kernel
theorem dX12_isSide_30 : decode cX12_isSide 30 = .ok (.getfield 31, 3) := by decide +kernel
theorem dX12_isSide_33 : decode cX12_isSide 33 = .ok (.iload_n 3, 1) := by decide +kernel
theorem dX12_isSide_34 : decode cX12_isSide 34 = .ok (.iaload, 1) := by decide +kernel
theorem dX12_isSide_35 : decode cX12_isSide 35 = .ok (.iload_n 1, 1) := by decide +kernel
theorem dX12_isSide_36 : decode cX12_isSide 36 = .ok (.if_icmp .ne 15, 3) := by decide +kernel
theorem dX12_isSide_39 : decode cX12_isSide 39 = .ok (.aload_n 0, 1) := by decide +kernel
theorem dX12_isSide_40 : decode cX12_isSide 40 = .ok (.getfield 28, 3) := by decide +kernel
theorem dX12_isSide_43 : decode cX12_isSide 43 = .ok (.iload_n 3, 1) := by decide +kernel
theorem dX12_isSide_44 : decode cX12_isSide 44 = .ok (.iaload, 1) := by decide +kernel
theorem dX12_isSide_45 : decode cX12_isSide 45 = .ok (.iload_n 2, 1) := by decide +kernel
theorem dX12_isSide_46 : decode cX12_isSide 46 = .ok (.if_icmp .ne 5, 3) := by decide +kernel
theorem dX12_isSide_49 : decode cX12_isSide 49 = .ok (.iconst 1, 1) := by decide +kernel
theorem dX12_isSide_50 : decode cX12_isSide 50 = .ok (.ireturn, 1) := by decide +kernel
theorem dX12_isSide_51 : decode cX12_isSide 51 = .ok (.iinc 3 1, 3) := by decide +kernel
theorem dX12_isSide_54 : decode cX12_isSide 54 = .ok (.goto (-52), 3) := by decide +kernel
theorem dX12_isSide_57 : decode cX12_isSide 57 = .ok (.iconst 0, 1) := by decide +kernel
theorem dX12_isSide_58 : decode cX12_isSide 58 = .ok (.ireturn, 1) := by decide +kernel
theorem dX12_exit_0 : decode cX12_exit 0 = .ok (.aload_n 0, 1) := by decide +kernel
theorem dX12_exit_1 : decode cX12_exit 1 = .ok (.iload_n 1, 1) := by decide +kernel
theorem dX12_exit_2 : decode cX12_exit 2 = .ok (.invokevirtual 180, 3) := by decide +kernel
theorem dX12_exit_5 : decode cX12_exit 5 = .ok (.ifCond .eq 27, 3) := by decide +kernel
theorem dX12_exit_8 : decode cX12_exit 8 = .ok (.iload_n 2, 1) := by decide +kernel
theorem dX12_exit_9 : decode cX12_exit 9 = .ok (.i2l, 1) := by decide +kernel
theorem dX12_exit_10 : decode cX12_exit 10 = .ok (.lconst 0, 1) := by decide +kernel
theorem dX12_exit_11 : decode cX12_exit 11 = .ok (.ldc2_w 197, 3) := by decide +kernel
theorem dX12_exit_14 : decode cX12_exit 14 = .ok (.invokestatic 166, 3) := by decide +kernel
theorem dX12_exit_17 : decode cX12_exit 17 = .ok (.ifCond .eq 15, 3) := by decide +kernel
theorem dX12_exit_20 : decode cX12_exit 20 = .ok (.iload_n 3, 1) := by decide +kernel
theorem dX12_exit_21 : decode cX12_exit 21 = .ok (.i2l, 1) := by decide +kernel
theorem dX12_exit_22 : decode cX12_exit 22 = .ok (.lconst 0, 1) := by decide +kernel
theorem dX12_exit_23 : decode cX12_exit 23 = .ok (.ldc2_w 279, 3) := by decide +kernel
theorem dX12_exit_26 : decode cX12_exit 26 = .ok (.invokestatic 166, 3) := by decide +kernel
theorem dX12_exit_29 : decode cX12_exit 29 = .ok (.ifCond .ne 5, 3) := by decide +kernel
theorem dX12_exit_32 : decode cX12_exit 32 = .ok (.iconst (-1), 1) := by decide +kernel
theorem dX12_exit_33 : decode cX12_exit 33 = .ok (.ireturn, 1) := by decide +kernel
theorem dX12_exit_34 : decode cX12_exit 34 = .ok (.aload_n 0, 1) := by decide +kernel
theorem dX12_exit_35 : decode cX12_exit 35 = .ok (.iload_n 1, 1) := by decide +kernel
theorem dX12_exit_36 : decode cX12_exit 36 = .ok (.iconst 0, 1) := by decide +kernel
theorem dX12_exit_37 : decode cX12_exit 37 = .ok (.invokevirtual 184, 3) := by decide +kernel
theorem dX12_exit_40 : decode cX12_exit 40 = .ok (.ifCond .ne 9, 3) := by decide +kernel
theorem dX12_exit_43 : decode cX12_exit 43 = .ok (.aload_n 0, 1) := by decide +kernel
theorem dX12_exit_44 : decode cX12_exit 44 = .ok (.iconst 3, 1) := by decide +kernel
theorem dX12_exit_45 : decode cX12_exit 45 = .ok (.invokevirtual 233, 3) := by decide +kernel
theorem dX12_exit_48 : decode cX12_exit 48 = .ok (.ireturn, 1) := by decide +kernel
theorem dX12_exit_49 : decode cX12_exit 49 = .ok (.aload_n 0, 1) := by decide +kernel
theorem dX12_exit_50 : decode cX12_exit 50 = .ok (.iload_n 1, 1) := by decide +kernel
theorem dX12_exit_51 : decode cX12_exit 51 = .ok (.iload_n 2, 1) := by decide +kernel
theorem dX12_exit_52 : decode cX12_exit 52 = .ok (.invokevirtual 281, 3) := by decide +kernel
theorem dX12_exit_55 : decode cX12_exit 55 = .ok (.ifCond .ne 6, 3) := by decide +kernel
theorem dX12_exit_58 : decode cX12_exit 58 = .ok (.bipush (-9), 2) := by decide +kernel
theorem dX12_exit_60 : decode cX12_exit 60 = .ok (.ireturn, 1) := by decide +kernel
theorem dX12_exit_61 : decode cX12_exit 61 = .ok (.iload_n 3, 1) := by decide +kernel
theorem dX12_exit_62 : decode cX12_exit 62 = .ok (.ifCond .ne 10, 3) := by decide +kernel
theorem dX12_exit_65 : decode cX12_exit 65 = .ok (.aload_n 0, 1) := by decide +kernel
theorem dX12_exit_66 : decode cX12_exit 66 = .ok (.getfield 263, 3) := by decide +kernel
theorem dX12_exit_69 : decode cX12_exit 69 = .ok (.goto 39, 3) := by decide +kernel
theorem dX12_exit_72 : decode cX12_exit 72 = .ok (.iload_n 3, 1) := by decide +kernel
theorem dX12_exit_73 : decode cX12_exit 73 = .ok (.iconst 1, 1) := by decide +kernel
theorem dX12_exit_74 : decode cX12_exit 74 = .ok (.if_icmp .ne 10, 3) := by decide +kernel
theorem dX12_exit_77 : decode cX12_exit 77 = .ok (.aload_n 0, 1) := by decide +kernel
theorem dX12_exit_78 : decode cX12_exit 78 = .ok (.getfield 266, 3) := by decide +kernel
theorem dX12_exit_81 : decode cX12_exit 81 = .ok (.goto 27, 3) := by decide +kernel
theorem dX12_exit_84 : decode cX12_exit 84 = .ok (.iload_n 3, 1) := by decide +kernel
theorem dX12_exit_85 : decode cX12_exit 85 = .ok (.iconst 2, 1) := by decide +kernel
theorem dX12_exit_86 : decode cX12_exit 86 = .ok (.if_icmp .ne 10, 3) := by decide +kernel
theorem dX12_exit_89 : decode cX12_exit 89 = .ok (.aload_n 0, 1) := by decide +kernel
theorem dX12_exit_90 : decode cX12_exit 90 = .ok (.getfield 269, 3) := by decide +kernel
theorem dX12_exit_93 : decode cX12_exit 93 = .ok (.goto 15, 3) := by decide +kernel
theorem dX12_exit_96 : decode cX12_exit 96 = .ok (.aload_n 0, 1) := by decide +kernel
theorem dX12_exit_97 : decode cX12_exit 97 = .ok (.getfield 272, 3) := by decide +kernel
theorem dX12_exit_100 : decode cX12_exit 100 = .ok (.ifCond .eq 7, 3) := by decide +kernel
theorem dX12_exit_103 : decode cX12_exit 103 = .ok (.iconst 1, 1) := by decide +kernel
theorem dX12_exit_104 : decode cX12_exit 104 = .ok (.goto 4, 3) := by decide +kernel
theorem dX12_exit_107 : decode cX12_exit 107 = .ok (.iconst 0, 1) := by decide +kernel
theorem dX12_exit_108 : decode cX12_exit 108 = .ok (.ireturn, 1) := by decide +kernel
theorem dX12_walk_0 : decode cX12_walk 0 = .ok (.iconst 0, 1) := by decide +kernel
theorem dX12_walk_1 : decode cX12_walk 1 = .ok (.istore_n 3, 1) := by decide +kernel
theorem dX12_walk_2 : decode cX12_walk 2 = .ok (.iload_n 3, 1) := by decide +kernel
theorem dX12_walk_3 : decode cX12_walk 3 = .ok (.aload_n 0, 1) := by decide +kernel
theorem dX12_walk_4 : decode cX12_walk 4 = .ok (.getfield 177, 3) := by decide +kernel
theorem dX12_walk_7 : decode cX12_walk 7 = .ok (.if_icmp .ge 17, 3) := by decide +kernel
theorem dX12_walk_10 : decode cX12_walk 10 = .ok (.aload_n 0, 1) := by decide +kernel
theorem dX12_walk_11 : decode cX12_walk 11 = .ok (.getfield 44, 3) := by decide +kernel
theorem dX12_walk_14 : decode cX12_walk 14 = .ok (.iload_n 3, 1) := by decide +kernel
theorem dX12_walk_15 : decode cX12_walk 15 = .ok (.bipush (-9), 2) := by decide +kernel
theorem dX12_walk_17 : decode cX12_walk 17 = .ok (.iastore, 1) := by decide +kernel
theorem dX12_walk_18 : decode cX12_walk 18 = .ok (.iinc 3 1, 3) := by decide +kernel
theorem dX12_walk_21 : decode cX12_walk 21 = .ok (.goto (-19), 3) := by decide +kernel
theorem dX12_walk_24 : decode cX12_walk 24 = .ok (.aload_n 0, 1) := by decide +kernel
theorem dX12_walk_25 : decode cX12_walk 25 = .ok (.getfield 44, 3) := by decide +kernel
theorem dX12_walk_28 : decode cX12_walk 28 = .ok (.iload_n 1, 1) := by decide +kernel
theorem dX12_walk_29 : decode cX12_walk 29 = .ok (.iconst 0, 1) := by decide +kernel
theorem dX12_walk_30 : decode cX12_walk 30 = .ok (.iastore, 1) := by decide +kernel
theorem dX12_walk_31 : decode cX12_walk 31 = .ok (.aload_n 0, 1) := by decide +kernel
theorem dX12_walk_32 : decode cX12_walk 32 = .ok (.getfield 47, 3) := by decide +kernel
theorem dX12_walk_35 : decode cX12_walk 35 = .ok (.iconst 0, 1) := by decide +kernel
theorem dX12_walk_36 : decode cX12_walk 36 = .ok (.iload_n 1, 1) := by decide +kernel
theorem dX12_walk_37 : decode cX12_walk 37 = .ok (.iastore, 1) := by decide +kernel
theorem dX12_walk_38 : decode cX12_walk 38 = .ok (.iconst 1, 1) := by decide +kernel
theorem dX12_walk_39 : decode cX12_walk 39 = .ok (.istore_n 3, 1) := by decide +kernel
theorem dX12_walk_40 : decode cX12_walk 40 = .ok (.iconst 0, 1) := by decide +kernel
theorem dX12_walk_41 : decode cX12_walk 41 = .ok (.istore 4, 2) := by decide +kernel
theorem dX12_walk_43 : decode cX12_walk 43 = .ok (.iload 4, 2) := by decide +kernel
theorem dX12_walk_45 : decode cX12_walk 45 = .ok (.iload_n 3, 1) := by decide +kernel
theorem dX12_walk_46 : decode cX12_walk 46 = .ok (.if_icmp .ge 138, 3) := by decide +kernel
theorem dX12_walk_49 : decode cX12_walk 49 = .ok (.iconst 0, 1) := by decide +kernel
theorem dX12_walk_50 : decode cX12_walk 50 = .ok (.istore 5, 2) := by decide +kernel
theorem dX12_walk_52 : decode cX12_walk 52 = .ok (.iload 5, 2) := by decide +kernel
theorem dX12_walk_54 : decode cX12_walk 54 = .ok (.bipush 10, 2) := by decide +kernel
theorem dX12_walk_56 : decode cX12_walk 56 = .ok (.if_icmp .ge 122, 3) := by decide +kernel
theorem dX12_walk_59 : decode cX12_walk 59 = .ok (.aload_n 0, 1) := by decide +kernel
theorem dX12_walk_60 : decode cX12_walk 60 = .ok (.aload_n 0, 1) := by decide +kernel
theorem dX12_walk_61 : decode cX12_walk 61 = .ok (.getfield 47, 3) := by decide +kernel
theorem dX12_walk_64 : decode cX12_walk 64 = .ok (.iload 4, 2) := by decide +kernel
theorem dX12_walk_66 : decode cX12_walk 66 = .ok (.iaload, 1) := by decide +kernel
theorem dX12_walk_67 : decode cX12_walk 67 = .ok (.iload 5, 2) := by decide +kernel
theorem dX12_walk_69 : decode cX12_walk 69 = .ok (.invokevirtual 281, 3) := by decide +kernel
theorem dX12_walk_72 : decode cX12_walk 72 = .ok (.ifCond .eq 42, 3) := by decide +kernel
theorem dX12_walk_75 : decode cX12_walk 75 = .ok (.aload_n 0, 1) := by decide +kernel
theorem dX12_walk_76 : decode cX12_walk 76 = .ok (.getfield 263, 3) := by decide +kernel
theorem dX12_walk_79 : decode cX12_walk 79 = .ok (.bipush (-9), 2) := by decide +kernel
theorem dX12_walk_81 : decode cX12_walk 81 = .ok (.if_icmp .eq 33, 3) := by decide +kernel
theorem dX12_walk_84 : decode cX12_walk 84 = .ok (.iload_n 2, 1) := by decide +kernel
theorem dX12_walk_85 : decode cX12_walk 85 = .ok (.ifCond .eq 25, 3) := by decide +kernel
theorem dX12_walk_88 : decode cX12_walk 88 = .ok (.aload_n 0, 1) := by decide +kernel
theorem dX12_walk_89 : decode cX12_walk 89 = .ok (.getfield 266, 3) := by decide +kernel
theorem dX12_walk_92 : decode cX12_walk 92 = .ok (.bipush (-9), 2) := by decide +kernel
theorem dX12_walk_94 : decode cX12_walk 94 = .ok (.if_icmp .eq 16, 3) := by decide +kernel
theorem dX12_walk_97 : decode cX12_walk 97 = .ok (.aload_n 0, 1) := by decide +kernel
theorem dX12_walk_98 : decode cX12_walk 98 = .ok (.aload_n 0, 1) := by decide +kernel
theorem dX12_walk_99 : decode cX12_walk 99 = .ok (.getfield 266, 3) := by decide +kernel
theorem dX12_walk_102 : decode cX12_walk 102 = .ok (.iconst 0, 1) := by decide +kernel
theorem dX12_walk_103 : decode cX12_walk 103 = .ok (.invokevirtual 256, 3) := by decide +kernel
theorem dX12_walk_106 : decode cX12_walk 106 = .ok (.iconst 1, 1) := by decide +kernel
theorem dX12_walk_107 : decode cX12_walk 107 = .ok (.if_icmp .ne 7, 3) := by decide +kernel
theorem dX12_walk_110 : decode cX12_walk 110 = .ok (.iconst 1, 1) := by decide +kernel
theorem dX12_walk_111 : decode cX12_walk 111 = .ok (.goto 4, 3) := by decide +kernel
theorem dX12_walk_114 : decode cX12_walk 114 = .ok (.iconst 0, 1) := by decide +kernel
theorem dX12_walk_115 : decode cX12_walk 115 = .ok (.istore 6, 2) := by decide +kernel
theorem dX12_walk_117 : decode cX12_walk 117 = .ok (.iload 6, 2) := by decide +kernel
theorem dX12_walk_119 : decode cX12_walk 119 = .ok (.ifCond .eq 53, 3) := by decide +kernel
theorem dX12_walk_122 : decode cX12_walk 122 = .ok (.aload_n 0, 1) := by decide +kernel
theorem dX12_walk_123 : decode cX12_walk 123 = .ok (.getfield 44, 3) := by decide +kernel
theorem dX12_walk_126 : decode cX12_walk 126 = .ok (.aload_n 0, 1) := by decide +kernel
theorem dX12_walk_127 : decode cX12_walk 127 = .ok (.getfield 263, 3) := by decide +kernel
theorem dX12_walk_130 : decode cX12_walk 130 = .ok (.iaload, 1) := by decide +kernel
theorem dX12_walk_131 : decode cX12_walk 131 = .ok (.bipush (-9), 2) := by decide +kernel
theorem dX12_walk_133 : decode cX12_walk 133 = .ok (.if_icmp .ne 39, 3) := by decide +kernel
theorem dX12_walk_136 : decode cX12_walk 136 = .ok (.aload_n 0, 1) := by decide +kernel
theorem dX12_walk_137 : decode cX12_walk 137 = .ok (.getfield 44, 3) := by decide +kernel
theorem dX12_walk_140 : decode cX12_walk 140 = .ok (.aload_n 0, 1) := by decide +kernel
theorem dX12_walk_141 : decode cX12_walk 141 = .ok (.getfield 263, 3) := by decide +kernel
theorem dX12_walk_144 : decode cX12_walk 144 = .ok (.aload_n 0, 1) := by decide +kernel
theorem dX12_walk_145 : decode cX12_walk 145 = .ok (.getfield 44, 3) := by decide +kernel
theorem dX12_walk_148 : decode cX12_walk 148 = .ok (.aload_n 0, 1) := by decide +kernel
theorem dX12_walk_149 : decode cX12_walk 149 = .ok (.getfield 47, 3) := by decide +kernel
theorem dX12_walk_152 : decode cX12_walk 152 = .ok (.iload 4, 2) := by decide +kernel
theorem dX12_walk_154 : decode cX12_walk 154 = .ok (.iaload, 1) := by decide +kernel
theorem dX12_walk_155 : decode cX12_walk 155 = .ok (.iaload, 1) := by decide +kernel
theorem dX12_walk_156 : decode cX12_walk 156 = .ok (.iconst 1, 1) := by decide +kernel
theorem dX12_walk_157 : decode cX12_walk 157 = .ok (.iadd, 1) := by decide +kernel
theorem dX12_walk_158 : decode cX12_walk 158 = .ok (.iastore, 1) := by decide +kernel
theorem dX12_walk_159 : decode cX12_walk 159 = .ok (.aload_n 0, 1) := by decide +kernel
theorem dX12_walk_160 : decode cX12_walk 160 = .ok (.getfield 47, 3) := by decide +kernel
theorem dX12_walk_163 : decode cX12_walk 163 = .ok (.iload_n 3, 1) := by decide +kernel
theorem dX12_walk_164 : decode cX12_walk 164 = .ok (.aload_n 0, 1) := by decide +kernel
theorem dX12_walk_165 : decode cX12_walk 165 = .ok (.getfield 263, 3) := by decide +kernel
theorem dX12_walk_168 : decode cX12_walk 168 = .ok (.iastore, 1) := by decide +kernel
theorem dX12_walk_169 : decode cX12_walk 169 = .ok (.iinc 3 1, 3) := by decide +kernel
theorem dX12_walk_172 : decode cX12_walk 172 = .ok (.iinc 5 1, 3) := by decide +kernel
theorem dX12_walk_175 : decode cX12_walk 175 = .ok (.goto (-123), 3) := by decide +kernel
theorem dX12_walk_178 : decode cX12_walk 178 = .ok (.iinc 4 1, 3) := by decide +kernel
theorem dX12_walk_181 : decode cX12_walk 181 = .ok (.goto (-138), 3) := by decide +kernel
theorem dX12_walk_184 : decode cX12_walk 184 = .ok (.return_, 1) := by decide +kernel
theorem dX12_wayRefused_0 : decode cX12_wayRefused 0 = .ok (.aload_n 0, 1) := by decide +kernel
theorem dX12_wayRefused_1 : decode cX12_wayRefused 1 = .ok (.iload_n 1, 1) := by decide +kernel
theorem dX12_wayRefused_2 : decode cX12_wayRefused 2 = .ok (.invokevirtual 180, 3) := by decide +kernel
theorem dX12_wayRefused_5 : decode cX12_wayRefused 5 = .ok (.ifCond .eq 11, 3) := by decide +kernel
theorem dX12_wayRefused_8 : decode cX12_wayRefused 8 = .ok (.aload_n 0, 1) := by decide +kernel
theorem dX12_wayRefused_9 : decode cX12_wayRefused 9 = .ok (.iload_n 2, 1) := by decide +kernel
theorem dX12_wayRefused_10 : decode cX12_wayRefused 10 = .ok (.invokevirtual 180, 3) := by decide +kernel
theorem dX12_wayRefused_13 : decode cX12_wayRefused 13 = .ok (.ifCond .ne 7, 3) := by decide +kernel
theorem dX12_wayRefused_16 : decode cX12_wayRefused 16 = .ok (.iconst (-1), 1) := by decide +kernel
theorem dX12_wayRefused_17 : decode cX12_wayRefused 17 = .ok (.goto 30, 3) := by decide +kernel
theorem dX12_wayRefused_20 : decode cX12_wayRefused 20 = .ok (.aload_n 0, 1) := by decide +kernel
theorem dX12_wayRefused_21 : decode cX12_wayRefused 21 = .ok (.iload_n 1, 1) := by decide +kernel
theorem dX12_wayRefused_22 : decode cX12_wayRefused 22 = .ok (.iconst 0, 1) := by decide +kernel
theorem dX12_wayRefused_23 : decode cX12_wayRefused 23 = .ok (.invokevirtual 184, 3) := by decide +kernel
theorem dX12_wayRefused_26 : decode cX12_wayRefused 26 = .ok (.ifCond .eq 12, 3) := by decide +kernel
theorem dX12_wayRefused_29 : decode cX12_wayRefused 29 = .ok (.aload_n 0, 1) := by decide +kernel
theorem dX12_wayRefused_30 : decode cX12_wayRefused 30 = .ok (.iload_n 2, 1) := by decide +kernel
theorem dX12_wayRefused_31 : decode cX12_wayRefused 31 = .ok (.iconst 0, 1) := by decide +kernel
theorem dX12_wayRefused_32 : decode cX12_wayRefused 32 = .ok (.invokevirtual 184, 3) := by decide +kernel
theorem dX12_wayRefused_35 : decode cX12_wayRefused 35 = .ok (.ifCond .ne 11, 3) := by decide +kernel
theorem dX12_wayRefused_38 : decode cX12_wayRefused 38 = .ok (.aload_n 0, 1) := by decide +kernel
theorem dX12_wayRefused_39 : decode cX12_wayRefused 39 = .ok (.iconst 3, 1) := by decide +kernel
theorem dX12_wayRefused_40 : decode cX12_wayRefused 40 = .ok (.invokevirtual 233, 3) := by decide +kernel
theorem dX12_wayRefused_43 : decode cX12_wayRefused 43 = .ok (.goto 4, 3) := by decide +kernel
theorem dX12_wayRefused_46 : decode cX12_wayRefused 46 = .ok (.iconst 0, 1) := by decide +kernel
theorem dX12_wayRefused_47 : decode cX12_wayRefused 47 = .ok (.ireturn, 1) := by decide +kernel
theorem dX12_way_0 : decode cX12_way 0 = .ok (.aload_n 0, 1) := by decide +kernel
theorem dX12_way_1 : decode cX12_way 1 = .ok (.iload_n 1, 1) := by decide +kernel
theorem dX12_way_2 : decode cX12_way 2 = .ok (.iload_n 2, 1) := by decide +kernel
theorem dX12_way_3 : decode cX12_way 3 = .ok (.invokevirtual 284, 3) := by decide +kernel
theorem dX12_way_6 : decode cX12_way 6 = .ok (.istore 4, 2) := by decide +kernel
theorem dX12_way_8 : decode cX12_way 8 = .ok (.iload 4, 2) := by decide +kernel
theorem dX12_way_10 : decode cX12_way 10 = .ok (.ifCond .ge 6, 3) := by decide +kernel
theorem dX12_way_13 : decode cX12_way 13 = .ok (.iload 4, 2) := by decide +kernel
theorem dX12_way_15 : decode cX12_way 15 = .ok (.ireturn, 1) := by decide +kernel
theorem dX12_way_16 : decode cX12_way 16 = .ok (.aload_n 0, 1) := by decide +kernel
theorem dX12_way_17 : decode cX12_way 17 = .ok (.iload_n 1, 1) := by decide +kernel
theorem dX12_way_18 : decode cX12_way 18 = .ok (.iload_n 3, 1) := by decide +kernel
theorem dX12_way_19 : decode cX12_way 19 = .ok (.invokevirtual 287, 3) := by decide +kernel
theorem dX12_way_22 : decode cX12_way 22 = .ok (.aload_n 0, 1) := by decide +kernel
theorem dX12_way_23 : decode cX12_way 23 = .ok (.getfield 44, 3) := by decide +kernel
theorem dX12_way_26 : decode cX12_way 26 = .ok (.iload_n 2, 1) := by decide +kernel
theorem dX12_way_27 : decode cX12_way 27 = .ok (.iaload, 1) := by decide +kernel
theorem dX12_way_28 : decode cX12_way 28 = .ok (.ireturn, 1) := by decide +kernel
theorem dX12_toward_0 : decode cX12_toward 0 = .ok (.aload_n 0, 1) := by decide +kernel
theorem dX12_toward_1 : decode cX12_toward 1 = .ok (.iload_n 1, 1) := by decide +kernel
theorem dX12_toward_2 : decode cX12_toward 2 = .ok (.iload_n 2, 1) := by decide +kernel
theorem dX12_toward_3 : decode cX12_toward 3 = .ok (.invokevirtual 284, 3) := by decide +kernel
theorem dX12_toward_6 : decode cX12_toward 6 = .ok (.istore 4, 2) := by decide +kernel
theorem dX12_toward_8 : decode cX12_toward 8 = .ok (.iload 4, 2) := by decide +kernel
theorem dX12_toward_10 : decode cX12_toward 10 = .ok (.ifCond .ge 6, 3) := by decide +kernel
theorem dX12_toward_13 : decode cX12_toward 13 = .ok (.iload 4, 2) := by decide +kernel
theorem dX12_toward_15 : decode cX12_toward 15 = .ok (.ireturn, 1) := by decide +kernel
theorem dX12_toward_16 : decode cX12_toward 16 = .ok (.aload_n 0, 1) := by decide +kernel
theorem dX12_toward_17 : decode cX12_toward 17 = .ok (.iload_n 1, 1) := by decide +kernel
theorem dX12_toward_18 : decode cX12_toward 18 = .ok (.iload_n 3, 1) := by decide +kernel
theorem dX12_toward_19 : decode cX12_toward 19 = .ok (.invokevirtual 287, 3) := by decide +kernel
theorem dX12_toward_22 : decode cX12_toward 22 = .ok (.aload_n 0, 1) := by decide +kernel
theorem dX12_toward_23 : decode cX12_toward 23 = .ok (.getfield 44, 3) := by decide +kernel
theorem dX12_toward_26 : decode cX12_toward 26 = .ok (.iload_n 2, 1) := by decide +kernel
theorem dX12_toward_27 : decode cX12_toward 27 = .ok (.iaload, 1) := by decide +kernel
theorem dX12_toward_28 : decode cX12_toward 28 = .ok (.istore 5, 2) := by decide +kernel
theorem dX12_toward_30 : decode cX12_toward 30 = .ok (.iload 5, 2) := by decide +kernel
theorem dX12_toward_32 : decode cX12_toward 32 = .ok (.bipush (-9), 2) := by decide +kernel
theorem dX12_toward_34 : decode cX12_toward 34 = .ok (.if_icmp .eq 8, 3) := by decide +kernel
theorem dX12_toward_37 : decode cX12_toward 37 = .ok (.iload 5, 2) := by decide +kernel
theorem dX12_toward_39 : decode cX12_toward 39 = .ok (.ifCond .ne 6, 3) := by decide +kernel
theorem dX12_toward_42 : decode cX12_toward 42 = .ok (.bipush (-9), 2) := by decide +kernel
theorem dX12_toward_44 : decode cX12_toward 44 = .ok (.ireturn, 1) := by decide +kernel
theorem dX12_toward_45 : decode cX12_toward 45 = .ok (.iconst 0, 1) := by decide +kernel
theorem dX12_toward_46 : decode cX12_toward 46 = .ok (.istore 6, 2) := by decide +kernel
theorem dX12_toward_48 : decode cX12_toward 48 = .ok (.iload 6, 2) := by decide +kernel
theorem dX12_toward_50 : decode cX12_toward 50 = .ok (.bipush 10, 2) := by decide +kernel
theorem dX12_toward_52 : decode cX12_toward 52 = .ok (.if_icmp .ge 95, 3) := by decide +kernel
theorem dX12_toward_55 : decode cX12_toward 55 = .ok (.aload_n 0, 1) := by decide +kernel
theorem dX12_toward_56 : decode cX12_toward 56 = .ok (.iload_n 1, 1) := by decide +kernel
theorem dX12_toward_57 : decode cX12_toward 57 = .ok (.iload 6, 2) := by decide +kernel
theorem dX12_toward_59 : decode cX12_toward 59 = .ok (.invokevirtual 281, 3) := by decide +kernel
theorem dX12_toward_62 : decode cX12_toward 62 = .ok (.ifCond .eq 42, 3) := by decide +kernel
theorem dX12_toward_65 : decode cX12_toward 65 = .ok (.aload_n 0, 1) := by decide +kernel
theorem dX12_toward_66 : decode cX12_toward 66 = .ok (.getfield 263, 3) := by decide +kernel
theorem dX12_toward_69 : decode cX12_toward 69 = .ok (.bipush (-9), 2) := by decide +kernel
theorem dX12_toward_71 : decode cX12_toward 71 = .ok (.if_icmp .eq 33, 3) := by decide +kernel
theorem dX12_toward_74 : decode cX12_toward 74 = .ok (.iload_n 3, 1) := by decide +kernel
theorem dX12_toward_75 : decode cX12_toward 75 = .ok (.ifCond .eq 25, 3) := by decide +kernel
theorem dX12_toward_78 : decode cX12_toward 78 = .ok (.aload_n 0, 1) := by decide +kernel
theorem dX12_toward_79 : decode cX12_toward 79 = .ok (.getfield 266, 3) := by decide +kernel
theorem dX12_toward_82 : decode cX12_toward 82 = .ok (.bipush (-9), 2) := by decide +kernel
theorem dX12_toward_84 : decode cX12_toward 84 = .ok (.if_icmp .eq 16, 3) := by decide +kernel
theorem dX12_toward_87 : decode cX12_toward 87 = .ok (.aload_n 0, 1) := by decide +kernel
theorem dX12_toward_88 : decode cX12_toward 88 = .ok (.aload_n 0, 1) := by decide +kernel
theorem dX12_toward_89 : decode cX12_toward 89 = .ok (.getfield 266, 3) := by decide +kernel
theorem dX12_toward_92 : decode cX12_toward 92 = .ok (.iconst 0, 1) := by decide +kernel
theorem dX12_toward_93 : decode cX12_toward 93 = .ok (.invokevirtual 256, 3) := by decide +kernel
theorem dX12_toward_96 : decode cX12_toward 96 = .ok (.iconst 1, 1) := by decide +kernel
theorem dX12_toward_97 : decode cX12_toward 97 = .ok (.if_icmp .ne 7, 3) := by decide +kernel
theorem dX12_toward_100 : decode cX12_toward 100 = .ok (.iconst 1, 1) := by decide +kernel
theorem dX12_toward_101 : decode cX12_toward 101 = .ok (.goto 4, 3) := by decide +kernel
theorem dX12_toward_104 : decode cX12_toward 104 = .ok (.iconst 0, 1) := by decide +kernel
theorem dX12_toward_105 : decode cX12_toward 105 = .ok (.istore 7, 2) := by decide +kernel
theorem dX12_toward_107 : decode cX12_toward 107 = .ok (.aload_n 0, 1) := by decide +kernel
theorem dX12_toward_108 : decode cX12_toward 108 = .ok (.getfield 263, 3) := by decide +kernel
theorem dX12_toward_111 : decode cX12_toward 111 = .ok (.istore 8, 2) := by decide +kernel
theorem dX12_toward_113 : decode cX12_toward 113 = .ok (.iload 7, 2) := by decide +kernel
theorem dX12_toward_115 : decode cX12_toward 115 = .ok (.ifCond .eq 26, 3) := by decide +kernel
theorem dX12_toward_118 : decode cX12_toward 118 = .ok (.aload_n 0, 1) := by decide +kernel
theorem dX12_toward_119 : decode cX12_toward 119 = .ok (.iload 8, 2) := by decide +kernel
theorem dX12_toward_121 : decode cX12_toward 121 = .ok (.iload_n 3, 1) := by decide +kernel
theorem dX12_toward_122 : decode cX12_toward 122 = .ok (.invokevirtual 287, 3) := by decide +kernel
theorem dX12_toward_125 : decode cX12_toward 125 = .ok (.aload_n 0, 1) := by decide +kernel
theorem dX12_toward_126 : decode cX12_toward 126 = .ok (.getfield 44, 3) := by decide +kernel
theorem dX12_toward_129 : decode cX12_toward 129 = .ok (.iload_n 2, 1) := by decide +kernel
theorem dX12_toward_130 : decode cX12_toward 130 = .ok (.iaload, 1) := by decide +kernel
theorem dX12_toward_131 : decode cX12_toward 131 = .ok (.iload 5, 2) := by decide +kernel
theorem dX12_toward_133 : decode cX12_toward 133 = .ok (.iconst 1, 1) := by decide +kernel
theorem dX12_toward_134 : decode cX12_toward 134 = .ok (.isub, 1) := by decide +kernel
theorem dX12_toward_135 : decode cX12_toward 135 = .ok (.if_icmp .ne 6, 3) := by decide +kernel
theorem dX12_toward_138 : decode cX12_toward 138 = .ok (.iload 6, 2) := by decide +kernel
theorem dX12_toward_140 : decode cX12_toward 140 = .ok (.ireturn, 1) := by decide +kernel
theorem dX12_toward_141 : decode cX12_toward 141 = .ok (.iinc 6 1, 3) := by decide +kernel
theorem dX12_toward_144 : decode cX12_toward 144 = .ok (.goto (-96), 3) := by decide +kernel
theorem dX12_toward_147 : decode cX12_toward 147 = .ok (.bipush (-9), 2) := by decide +kernel
theorem dX12_toward_149 : decode cX12_toward 149 = .ok (.ireturn, 1) := by decide +kernel
theorem dX12_endTale_0 : decode cX12_endTale 0 = .ok (.aload_n 0, 1) := by decide +kernel
theorem dX12_endTale_1 : decode cX12_endTale 1 = .ok (.bipush (-9), 2) := by decide +kernel
theorem dX12_endTale_3 : decode cX12_endTale 3 = .ok (.putfield 155, 3) := by decide +kernel
theorem dX12_endTale_6 : decode cX12_endTale 6 = .ok (.aload_n 0, 1) := by decide +kernel
theorem dX12_endTale_7 : decode cX12_endTale 7 = .ok (.iconst 0, 1) := by decide +kernel
theorem dX12_endTale_8 : decode cX12_endTale 8 = .ok (.putfield 291, 3) := by decide +kernel
theorem dX12_endTale_11 : decode cX12_endTale 11 = .ok (.return_, 1) := by decide +kernel
theorem dX12_formNow_0 : decode cX12_formNow 0 = .ok (.aload_n 0, 1) := by decide +kernel
theorem dX12_formNow_1 : decode cX12_formNow 1 = .ok (.getfield 155, 3) := by decide +kernel
theorem dX12_formNow_4 : decode cX12_formNow 4 = .ok (.bipush (-9), 2) := by decide +kernel
theorem dX12_formNow_6 : decode cX12_formNow 6 = .ok (.if_icmp .eq 10, 3) := by decide +kernel
theorem dX12_formNow_9 : decode cX12_formNow 9 = .ok (.aload_n 0, 1) := by decide +kernel
theorem dX12_formNow_10 : decode cX12_formNow 10 = .ok (.getfield 50, 3) := by decide +kernel
theorem dX12_formNow_13 : decode cX12_formNow 13 = .ok (.iload_n 1, 1) := by decide +kernel
theorem dX12_formNow_14 : decode cX12_formNow 14 = .ok (.iaload, 1) := by decide +kernel
theorem dX12_formNow_15 : decode cX12_formNow 15 = .ok (.ireturn, 1) := by decide +kernel
theorem dX12_formNow_16 : decode cX12_formNow 16 = .ok (.aload_n 0, 1) := by decide +kernel
theorem dX12_formNow_17 : decode cX12_formNow 17 = .ok (.iload_n 1, 1) := by decide +kernel
theorem dX12_formNow_18 : decode cX12_formNow 18 = .ok (.invokevirtual 208, 3) := by decide +kernel
theorem dX12_formNow_21 : decode cX12_formNow 21 = .ok (.istore_n 2, 1) := by decide +kernel
theorem dX12_formNow_22 : decode cX12_formNow 22 = .ok (.iload_n 2, 1) := by decide +kernel
theorem dX12_formNow_23 : decode cX12_formNow 23 = .ok (.bipush (-9), 2) := by decide +kernel
theorem dX12_formNow_25 : decode cX12_formNow 25 = .ok (.if_icmp .ne 8, 3) := by decide +kernel
theorem dX12_formNow_28 : decode cX12_formNow 28 = .ok (.bipush (-9), 2) := by decide +kernel
theorem dX12_formNow_30 : decode cX12_formNow 30 = .ok (.goto 9, 3) := by decide +kernel
theorem dX12_formNow_33 : decode cX12_formNow 33 = .ok (.aload_n 0, 1) := by decide +kernel
theorem dX12_formNow_34 : decode cX12_formNow 34 = .ok (.getfield 25, 3) := by decide +kernel
theorem dX12_formNow_37 : decode cX12_formNow 37 = .ok (.iload_n 2, 1) := by decide +kernel
theorem dX12_formNow_38 : decode cX12_formNow 38 = .ok (.iaload, 1) := by decide +kernel
theorem dX12_formNow_39 : decode cX12_formNow 39 = .ok (.ireturn, 1) := by decide +kernel
theorem dX12_atNow_0 : decode cX12_atNow 0 = .ok (.aload_n 0, 1) := by decide +kernel
theorem dX12_atNow_1 : decode cX12_atNow 1 = .ok (.getfield 155, 3) := by decide +kernel
theorem dX12_atNow_4 : decode cX12_atNow 4 = .ok (.bipush (-9), 2) := by decide +kernel
theorem dX12_atNow_6 : decode cX12_atNow 6 = .ok (.if_icmp .eq 10, 3) := by decide +kernel
theorem dX12_atNow_9 : decode cX12_atNow 9 = .ok (.aload_n 0, 1) := by decide +kernel
theorem dX12_atNow_10 : decode cX12_atNow 10 = .ok (.getfield 53, 3) := by decide +kernel
theorem dX12_atNow_13 : decode cX12_atNow 13 = .ok (.iload_n 1, 1) := by decide +kernel
theorem dX12_atNow_14 : decode cX12_atNow 14 = .ok (.iaload, 1) := by decide +kernel
theorem dX12_atNow_15 : decode cX12_atNow 15 = .ok (.ireturn, 1) := by decide +kernel
theorem dX12_atNow_16 : decode cX12_atNow 16 = .ok (.aload_n 0, 1) := by decide +kernel
theorem dX12_atNow_17 : decode cX12_atNow 17 = .ok (.iload_n 1, 1) := by decide +kernel
theorem dX12_atNow_18 : decode cX12_atNow 18 = .ok (.invokevirtual 208, 3) := by decide +kernel
theorem dX12_atNow_21 : decode cX12_atNow 21 = .ok (.istore_n 2, 1) := by decide +kernel
theorem dX12_atNow_22 : decode cX12_atNow 22 = .ok (.iload_n 2, 1) := by decide +kernel
theorem dX12_atNow_23 : decode cX12_atNow 23 = .ok (.bipush (-9), 2) := by decide +kernel
theorem dX12_atNow_25 : decode cX12_atNow 25 = .ok (.if_icmp .ne 8, 3) := by decide +kernel
theorem dX12_atNow_28 : decode cX12_atNow 28 = .ok (.bipush (-9), 2) := by decide +kernel
theorem dX12_atNow_30 : decode cX12_atNow 30 = .ok (.goto 9, 3) := by decide +kernel
theorem dX12_atNow_33 : decode cX12_atNow 33 = .ok (.aload_n 0, 1) := by decide +kernel
theorem dX12_atNow_34 : decode cX12_atNow 34 = .ok (.getfield 31, 3) := by decide +kernel
theorem dX12_atNow_37 : decode cX12_atNow 37 = .ok (.iload_n 2, 1) := by decide +kernel
theorem dX12_atNow_38 : decode cX12_atNow 38 = .ok (.iaload, 1) := by decide +kernel
theorem dX12_atNow_39 : decode cX12_atNow 39 = .ok (.ireturn, 1) := by decide +kernel
theorem dX12_body_0 : decode cX12_body 0 = .ok (.aload_n 0, 1) := by decide +kernel
theorem dX12_body_1 : decode cX12_body 1 = .ok (.getfield 294, 3) := by decide +kernel
theorem dX12_body_4 : decode cX12_body 4 = .ok (.ifCond .eq 32, 3) := by decide +kernel
theorem dX12_body_7 : decode cX12_body 7 = .ok (.aload_n 0, 1) := by decide +kernel
theorem dX12_body_8 : decode cX12_body 8 = .ok (.getfield 297, 3) := by decide +kernel
theorem dX12_body_11 : decode cX12_body 11 = .ok (.bipush 100, 2) := by decide +kernel
theorem dX12_body_13 : decode cX12_body 13 = .ok (.if_icmp .ge 23, 3) := by decide +kernel
theorem dX12_body_16 : decode cX12_body 16 = .ok (.aload_n 0, 1) := by decide +kernel
theorem dX12_body_17 : decode cX12_body 17 = .ok (.getfield 77, 3) := by decide +kernel
theorem dX12_body_20 : decode cX12_body 20 = .ok (.aload_n 0, 1) := by decide +kernel
theorem dX12_body_21 : decode cX12_body 21 = .ok (.getfield 297, 3) := by decide +kernel
theorem dX12_body_24 : decode cX12_body 24 = .ok (.iload_n 1, 1) := by decide +kernel
theorem dX12_body_25 : decode cX12_body 25 = .ok (.iastore, 1) := by decide +kernel
theorem dX12_body_26 : decode cX12_body 26 = .ok (.aload_n 0, 1) := by decide +kernel
theorem dX12_body_27 : decode cX12_body 27 = .ok (.dup, 1) := by decide +kernel
theorem dX12_body_28 : decode cX12_body 28 = .ok (.getfield 297, 3) := by decide +kernel
theorem dX12_body_31 : decode cX12_body 31 = .ok (.iconst 1, 1) := by decide +kernel
theorem dX12_body_32 : decode cX12_body 32 = .ok (.iadd, 1) := by decide +kernel
theorem dX12_body_33 : decode cX12_body 33 = .ok (.putfield 297, 3) := by decide +kernel
theorem dX12_body_36 : decode cX12_body 36 = .ok (.return_, 1) := by decide +kernel
theorem dX12_bulkOf_0 : decode cX12_bulkOf 0 = .ok (.aload_n 0, 1) := by decide +kernel
theorem dX12_bulkOf_1 : decode cX12_bulkOf 1 = .ok (.iload_n 1, 1) := by decide +kernel
theorem dX12_bulkOf_2 : decode cX12_bulkOf 2 = .ok (.iconst 2, 1) := by decide +kernel
theorem dX12_bulkOf_3 : decode cX12_bulkOf 3 = .ok (.invokevirtual 184, 3) := by decide +kernel
theorem dX12_bulkOf_6 : decode cX12_bulkOf 6 = .ok (.ifCond .eq 59, 3) := by decide +kernel
theorem dX12_bulkOf_9 : decode cX12_bulkOf 9 = .ok (.aload_n 0, 1) := by decide +kernel
theorem dX12_bulkOf_10 : decode cX12_bulkOf 10 = .ok (.iconst 4, 1) := by decide +kernel
theorem dX12_bulkOf_11 : decode cX12_bulkOf 11 = .ok (.invokevirtual 300, 3) := by decide +kernel
theorem dX12_bulkOf_14 : decode cX12_bulkOf 14 = .ok (.aload_n 0, 1) := by decide +kernel
theorem dX12_bulkOf_15 : decode cX12_bulkOf 15 = .ok (.iconst 1, 1) := by decide +kernel
theorem dX12_bulkOf_16 : decode cX12_bulkOf 16 = .ok (.invokevirtual 300, 3) := by decide +kernel
theorem dX12_bulkOf_19 : decode cX12_bulkOf 19 = .ok (.aload_n 0, 1) := by decide +kernel
theorem dX12_bulkOf_20 : decode cX12_bulkOf 20 = .ok (.dup, 1) := by decide +kernel
theorem dX12_bulkOf_21 : decode cX12_bulkOf 21 = .ok (.getfield 303, 3) := by decide +kernel
theorem dX12_bulkOf_24 : decode cX12_bulkOf 24 = .ok (.aload_n 0, 1) := by decide +kernel
theorem dX12_bulkOf_25 : decode cX12_bulkOf 25 = .ok (.getfield 22, 3) := by decide +kernel
theorem dX12_bulkOf_28 : decode cX12_bulkOf 28 = .ok (.iload_n 1, 1) := by decide +kernel
theorem dX12_bulkOf_29 : decode cX12_bulkOf 29 = .ok (.iaload, 1) := by decide +kernel
theorem dX12_bulkOf_30 : decode cX12_bulkOf 30 = .ok (.ifCond .ne 7, 3) := by decide +kernel
theorem dX12_bulkOf_33 : decode cX12_bulkOf 33 = .ok (.iconst 1, 1) := by decide +kernel
theorem dX12_bulkOf_34 : decode cX12_bulkOf 34 = .ok (.goto 4, 3) := by decide +kernel
theorem dX12_bulkOf_37 : decode cX12_bulkOf 37 = .ok (.iconst 0, 1) := by decide +kernel
theorem dX12_bulkOf_38 : decode cX12_bulkOf 38 = .ok (.ior, 1) := by decide +kernel
theorem dX12_bulkOf_39 : decode cX12_bulkOf 39 = .ok (.putfield 303, 3) := by decide +kernel
theorem dX12_bulkOf_42 : decode cX12_bulkOf 42 = .ok (.aload_n 0, 1) := by decide +kernel
theorem dX12_bulkOf_43 : decode cX12_bulkOf 43 = .ok (.getfield 22, 3) := by decide +kernel
theorem dX12_bulkOf_46 : decode cX12_bulkOf 46 = .ok (.iload_n 1, 1) := by decide +kernel
theorem dX12_bulkOf_47 : decode cX12_bulkOf 47 = .ok (.iaload, 1) := by decide +kernel
theorem dX12_bulkOf_48 : decode cX12_bulkOf 48 = .ok (.ifCond .ne 7, 3) := by decide +kernel
theorem dX12_bulkOf_51 : decode cX12_bulkOf 51 = .ok (.iconst 0, 1) := by decide +kernel
theorem dX12_bulkOf_52 : decode cX12_bulkOf 52 = .ok (.goto 12, 3) := by decide +kernel
theorem dX12_bulkOf_55 : decode cX12_bulkOf 55 = .ok (.bipush 100, 2) := by decide +kernel
theorem dX12_bulkOf_57 : decode cX12_bulkOf 57 = .ok (.aload_n 0, 1) := by decide +kernel
theorem dX12_bulkOf_58 : decode cX12_bulkOf 58 = .ok (.getfield 22, 3) := by decide +kernel
theorem dX12_bulkOf_61 : decode cX12_bulkOf 61 = .ok (.iload_n 1, 1) := by decide +kernel
theorem dX12_bulkOf_62 : decode cX12_bulkOf 62 = .ok (.iaload, 1) := by decide +kernel
theorem dX12_bulkOf_63 : decode cX12_bulkOf 63 = .ok (.idiv, 1) := by decide +kernel
theorem dX12_bulkOf_64 : decode cX12_bulkOf 64 = .ok (.ireturn, 1) := by decide +kernel
theorem dX12_bulkOf_65 : decode cX12_bulkOf 65 = .ok (.aload_n 0, 1) := by decide +kernel
theorem dX12_bulkOf_66 : decode cX12_bulkOf 66 = .ok (.iconst 0, 1) := by decide +kernel
theorem dX12_bulkOf_67 : decode cX12_bulkOf 67 = .ok (.iload_n 1, 1) := by decide +kernel
theorem dX12_bulkOf_68 : decode cX12_bulkOf 68 = .ok (.invokevirtual 306, 3) := by decide +kernel
theorem dX12_bulkOf_71 : decode cX12_bulkOf 71 = .ok (.istore_n 2, 1) := by decide +kernel
theorem dX12_bulkOf_72 : decode cX12_bulkOf 72 = .ok (.iconst 0, 1) := by decide +kernel
theorem dX12_bulkOf_73 : decode cX12_bulkOf 73 = .ok (.istore_n 3, 1) := by decide +kernel
theorem dX12_bulkOf_74 : decode cX12_bulkOf 74 = .ok (.iload_n 3, 1) := by decide +kernel
theorem dX12_bulkOf_75 : decode cX12_bulkOf 75 = .ok (.ifCond .lt 137, 3) := by decide +kernel
theorem dX12_bulkOf_78 : decode cX12_bulkOf 78 = .ok (.aload_n 0, 1) := by decide +kernel
theorem dX12_bulkOf_79 : decode cX12_bulkOf 79 = .ok (.aload_n 0, 1) := by decide +kernel
theorem dX12_bulkOf_80 : decode cX12_bulkOf 80 = .ok (.getfield 80, 3) := by decide +kernel
theorem dX12_bulkOf_83 : decode cX12_bulkOf 83 = .ok (.iload_n 3, 1) := by decide +kernel
theorem dX12_bulkOf_84 : decode cX12_bulkOf 84 = .ok (.iaload, 1) := by decide +kernel
theorem dX12_bulkOf_85 : decode cX12_bulkOf 85 = .ok (.iconst 3, 1) := by decide +kernel
theorem dX12_bulkOf_86 : decode cX12_bulkOf 86 = .ok (.invokevirtual 184, 3) := by decide +kernel
theorem dX12_bulkOf_89 : decode cX12_bulkOf 89 = .ok (.ifCond .eq 7, 3) := by decide +kernel
theorem dX12_bulkOf_92 : decode cX12_bulkOf 92 = .ok (.iconst 0, 1) := by decide +kernel
theorem dX12_bulkOf_93 : decode cX12_bulkOf 93 = .ok (.goto 23, 3) := by decide +kernel
theorem dX12_bulkOf_96 : decode cX12_bulkOf 96 = .ok (.aload_n 0, 1) := by decide +kernel
theorem dX12_bulkOf_97 : decode cX12_bulkOf 97 = .ok (.aload_n 0, 1) := by decide +kernel
theorem dX12_bulkOf_98 : decode cX12_bulkOf 98 = .ok (.getfield 80, 3) := by decide +kernel
theorem dX12_bulkOf_101 : decode cX12_bulkOf 101 = .ok (.iload_n 3, 1) := by decide +kernel
theorem dX12_bulkOf_102 : decode cX12_bulkOf 102 = .ok (.iaload, 1) := by decide +kernel
theorem dX12_bulkOf_103 : decode cX12_bulkOf 103 = .ok (.iconst 4, 1) := by decide +kernel
theorem dX12_bulkOf_104 : decode cX12_bulkOf 104 = .ok (.invokevirtual 184, 3) := by decide +kernel
theorem dX12_bulkOf_107 : decode cX12_bulkOf 107 = .ok (.ifCond .eq 7, 3) := by decide +kernel
theorem dX12_bulkOf_110 : decode cX12_bulkOf 110 = .ok (.iconst 1, 1) := by decide +kernel
theorem dX12_bulkOf_111 : decode cX12_bulkOf 111 = .ok (.goto 5, 3) := by decide +kernel
theorem dX12_bulkOf_114 : decode cX12_bulkOf 114 = .ok (.bipush (-9), 2) := by decide +kernel
theorem dX12_bulkOf_116 : decode cX12_bulkOf 116 = .ok (.istore 4, 2) := by decide +kernel
theorem dX12_bulkOf_118 : decode cX12_bulkOf 118 = .ok (.aload_n 0, 1) := by decide +kernel
theorem dX12_bulkOf_119 : decode cX12_bulkOf 119 = .ok (.getfield 83, 3) := by decide +kernel
theorem dX12_bulkOf_122 : decode cX12_bulkOf 122 = .ok (.iload_n 3, 1) := by decide +kernel
theorem dX12_bulkOf_123 : decode cX12_bulkOf 123 = .ok (.iaload, 1) := by decide +kernel
theorem dX12_bulkOf_124 : decode cX12_bulkOf 124 = .ok (.istore 5, 2) := by decide +kernel
theorem dX12_bulkOf_126 : decode cX12_bulkOf 126 = .ok (.iload 5, 2) := by decide +kernel
theorem dX12_bulkOf_128 : decode cX12_bulkOf 128 = .ok (.aload_n 0, 1) := by decide +kernel
theorem dX12_bulkOf_129 : decode cX12_bulkOf 129 = .ok (.getfield 177, 3) := by decide +kernel
theorem dX12_bulkOf_132 : decode cX12_bulkOf 132 = .ok (.if_icmp .ge 42, 3) := by decide +kernel
theorem dX12_bulkOf_135 : decode cX12_bulkOf 135 = .ok (.iload 4, 2) := by decide +kernel
theorem dX12_bulkOf_137 : decode cX12_bulkOf 137 = .ok (.bipush (-9), 2) := by decide +kernel
theorem dX12_bulkOf_139 : decode cX12_bulkOf 139 = .ok (.if_icmp .eq 29, 3) := by decide +kernel
theorem dX12_bulkOf_142 : decode cX12_bulkOf 142 = .ok (.aload_n 0, 1) := by decide +kernel
theorem dX12_bulkOf_143 : decode cX12_bulkOf 143 = .ok (.iload 5, 2) := by decide +kernel
theorem dX12_bulkOf_145 : decode cX12_bulkOf 145 = .ok (.invokevirtual 309, 3) := by decide +kernel
theorem dX12_bulkOf_148 : decode cX12_bulkOf 148 = .ok (.iload 4, 2) := by decide +kernel
theorem dX12_bulkOf_150 : decode cX12_bulkOf 150 = .ok (.if_icmp .ne 18, 3) := by decide +kernel
theorem dX12_bulkOf_153 : decode cX12_bulkOf 153 = .ok (.aload_n 0, 1) := by decide +kernel
theorem dX12_bulkOf_154 : decode cX12_bulkOf 154 = .ok (.iload 5, 2) := by decide +kernel
theorem dX12_bulkOf_156 : decode cX12_bulkOf 156 = .ok (.invokevirtual 312, 3) := by decide +kernel
theorem dX12_bulkOf_159 : decode cX12_bulkOf 159 = .ok (.aload_n 0, 1) := by decide +kernel
theorem dX12_bulkOf_160 : decode cX12_bulkOf 160 = .ok (.getfield 80, 3) := by decide +kernel
theorem dX12_bulkOf_163 : decode cX12_bulkOf 163 = .ok (.iload_n 3, 1) := by decide +kernel
theorem dX12_bulkOf_164 : decode cX12_bulkOf 164 = .ok (.iaload, 1) := by decide +kernel
theorem dX12_bulkOf_165 : decode cX12_bulkOf 165 = .ok (.if_icmp .eq 9, 3) := by decide +kernel
theorem dX12_bulkOf_168 : decode cX12_bulkOf 168 = .ok (.iinc 5 1, 3) := by decide +kernel
theorem dX12_bulkOf_171 : decode cX12_bulkOf 171 = .ok (.goto (-45), 3) := by decide +kernel
theorem dX12_bulkOf_174 : decode cX12_bulkOf 174 = .ok (.aload_n 0, 1) := by decide +kernel
theorem dX12_bulkOf_175 : decode cX12_bulkOf 175 = .ok (.getfield 83, 3) := by decide +kernel
theorem dX12_bulkOf_178 : decode cX12_bulkOf 178 = .ok (.iload_n 3, 1) := by decide +kernel
theorem dX12_bulkOf_179 : decode cX12_bulkOf 179 = .ok (.iload 5, 2) := by decide +kernel
theorem dX12_bulkOf_181 : decode cX12_bulkOf 181 = .ok (.iconst 1, 1) := by decide +kernel
theorem dX12_bulkOf_182 : decode cX12_bulkOf 182 = .ok (.iadd, 1) := by decide +kernel
theorem dX12_bulkOf_183 : decode cX12_bulkOf 183 = .ok (.iastore, 1) := by decide +kernel
theorem dX12_bulkOf_184 : decode cX12_bulkOf 184 = .ok (.iinc 3 (-1), 3) := by decide +kernel
theorem dX12_bulkOf_187 : decode cX12_bulkOf 187 = .ok (.iload 5, 2) := by decide +kernel
theorem dX12_bulkOf_189 : decode cX12_bulkOf 189 = .ok (.aload_n 0, 1) := by decide +kernel
theorem dX12_bulkOf_190 : decode cX12_bulkOf 190 = .ok (.getfield 177, 3) := by decide +kernel
theorem dX12_bulkOf_193 : decode cX12_bulkOf 193 = .ok (.if_icmp .ge 16, 3) := by decide +kernel
theorem dX12_bulkOf_196 : decode cX12_bulkOf 196 = .ok (.iinc 3 2, 3) := by decide +kernel
theorem dX12_bulkOf_199 : decode cX12_bulkOf 199 = .ok (.iload_n 2, 1) := by decide +kernel
theorem dX12_bulkOf_200 : decode cX12_bulkOf 200 = .ok (.aload_n 0, 1) := by decide +kernel
theorem dX12_bulkOf_201 : decode cX12_bulkOf 201 = .ok (.iload_n 3, 1) := by decide +kernel
theorem dX12_bulkOf_202 : decode cX12_bulkOf 202 = .ok (.iload 5, 2) := by decide +kernel
theorem dX12_bulkOf_204 : decode cX12_bulkOf 204 = .ok (.invokevirtual 306, 3) := by decide +kernel
theorem dX12_bulkOf_207 : decode cX12_bulkOf 207 = .ok (.iadd, 1) := by decide +kernel
theorem dX12_bulkOf_208 : decode cX12_bulkOf 208 = .ok (.istore_n 2, 1) := by decide +kernel
theorem dX12_bulkOf_209 : decode cX12_bulkOf 209 = .ok (.goto (-135), 3) := by decide +kernel
theorem dX12_bulkOf_212 : decode cX12_bulkOf 212 = .ok (.iload_n 2, 1) := by decide +kernel
theorem dX12_bulkOf_213 : decode cX12_bulkOf 213 = .ok (.ireturn, 1) := by decide +kernel
theorem dX12_beginBulk_0 : decode cX12_beginBulk 0 = .ok (.aload_n 0, 1) := by decide +kernel
theorem dX12_beginBulk_1 : decode cX12_beginBulk 1 = .ok (.getfield 80, 3) := by decide +kernel
theorem dX12_beginBulk_4 : decode cX12_beginBulk 4 = .ok (.iload_n 1, 1) := by decide +kernel
theorem dX12_beginBulk_5 : decode cX12_beginBulk 5 = .ok (.iload_n 2, 1) := by decide +kernel
theorem dX12_beginBulk_6 : decode cX12_beginBulk 6 = .ok (.iastore, 1) := by decide +kernel
theorem dX12_beginBulk_7 : decode cX12_beginBulk 7 = .ok (.aload_n 0, 1) := by decide +kernel
theorem dX12_beginBulk_8 : decode cX12_beginBulk 8 = .ok (.getfield 83, 3) := by decide +kernel
theorem dX12_beginBulk_11 : decode cX12_beginBulk 11 = .ok (.iload_n 1, 1) := by decide +kernel
theorem dX12_beginBulk_12 : decode cX12_beginBulk 12 = .ok (.iconst 0, 1) := by decide +kernel
theorem dX12_beginBulk_13 : decode cX12_beginBulk 13 = .ok (.iastore, 1) := by decide +kernel
theorem dX12_beginBulk_14 : decode cX12_beginBulk 14 = .ok (.aload_n 0, 1) := by decide +kernel
theorem dX12_beginBulk_15 : decode cX12_beginBulk 15 = .ok (.iload_n 2, 1) := by decide +kernel
theorem dX12_beginBulk_16 : decode cX12_beginBulk 16 = .ok (.iconst 3, 1) := by decide +kernel
theorem dX12_beginBulk_17 : decode cX12_beginBulk 17 = .ok (.invokevirtual 184, 3) := by decide +kernel
theorem dX12_beginBulk_20 : decode cX12_beginBulk 20 = .ok (.ifCond .eq 11, 3) := by decide +kernel
theorem dX12_beginBulk_23 : decode cX12_beginBulk 23 = .ok (.aload_n 0, 1) := by decide +kernel
theorem dX12_beginBulk_24 : decode cX12_beginBulk 24 = .ok (.iconst 2, 1) := by decide +kernel
theorem dX12_beginBulk_25 : decode cX12_beginBulk 25 = .ok (.invokevirtual 300, 3) := by decide +kernel
theorem dX12_beginBulk_28 : decode cX12_beginBulk 28 = .ok (.goto 34, 3) := by decide +kernel
theorem dX12_beginBulk_31 : decode cX12_beginBulk 31 = .ok (.aload_n 0, 1) := by decide +kernel
theorem dX12_beginBulk_32 : decode cX12_beginBulk 32 = .ok (.iload_n 2, 1) := by decide +kernel
theorem dX12_beginBulk_33 : decode cX12_beginBulk 33 = .ok (.iconst 4, 1) := by decide +kernel
theorem dX12_beginBulk_34 : decode cX12_beginBulk 34 = .ok (.invokevirtual 184, 3) := by decide +kernel
theorem dX12_beginBulk_37 : decode cX12_beginBulk 37 = .ok (.ifCond .eq 11, 3) := by decide +kernel
theorem dX12_beginBulk_40 : decode cX12_beginBulk 40 = .ok (.aload_n 0, 1) := by decide +kernel
theorem dX12_beginBulk_41 : decode cX12_beginBulk 41 = .ok (.iconst 3, 1) := by decide +kernel
theorem dX12_beginBulk_42 : decode cX12_beginBulk 42 = .ok (.invokevirtual 300, 3) := by decide +kernel
theorem dX12_beginBulk_45 : decode cX12_beginBulk 45 = .ok (.goto 17, 3) := by decide +kernel
theorem dX12_beginBulk_48 : decode cX12_beginBulk 48 = .ok (.aload_n 0, 1) := by decide +kernel
theorem dX12_beginBulk_49 : decode cX12_beginBulk 49 = .ok (.iload_n 2, 1) := by decide +kernel
theorem dX12_beginBulk_50 : decode cX12_beginBulk 50 = .ok (.iconst 5, 1) := by decide +kernel
theorem dX12_beginBulk_51 : decode cX12_beginBulk 51 = .ok (.invokevirtual 184, 3) := by decide +kernel
theorem dX12_beginBulk_54 : decode cX12_beginBulk 54 = .ok (.ifCond .eq 8, 3) := by decide +kernel
theorem dX12_beginBulk_57 : decode cX12_beginBulk 57 = .ok (.aload_n 0, 1) := by decide +kernel
theorem dX12_beginBulk_58 : decode cX12_beginBulk 58 = .ok (.iconst 5, 1) := by decide +kernel
theorem dX12_beginBulk_59 : decode cX12_beginBulk 59 = .ok (.invokevirtual 300, 3) := by decide +kernel
theorem dX12_beginBulk_62 : decode cX12_beginBulk 62 = .ok (.aload_n 0, 1) := by decide +kernel
theorem dX12_beginBulk_63 : decode cX12_beginBulk 63 = .ok (.iconst 1, 1) := by decide +kernel
theorem dX12_beginBulk_64 : decode cX12_beginBulk 64 = .ok (.invokevirtual 300, 3) := by decide +kernel
theorem dX12_beginBulk_67 : decode cX12_beginBulk 67 = .ok (.aload_n 0, 1) := by decide +kernel
theorem dX12_beginBulk_68 : decode cX12_beginBulk 68 = .ok (.iload_n 2, 1) := by decide +kernel
theorem dX12_beginBulk_69 : decode cX12_beginBulk 69 = .ok (.iconst 5, 1) := by decide +kernel
theorem dX12_beginBulk_70 : decode cX12_beginBulk 70 = .ok (.invokevirtual 184, 3) := by decide +kernel
theorem dX12_beginBulk_73 : decode cX12_beginBulk 73 = .ok (.ifCond .eq 14, 3) := by decide +kernel
theorem dX12_beginBulk_76 : decode cX12_beginBulk 76 = .ok (.iconst 2, 1) := by decide +kernel
theorem dX12_beginBulk_77 : decode cX12_beginBulk 77 = .ok (.aload_n 0, 1) := by decide +kernel
theorem dX12_beginBulk_78 : decode cX12_beginBulk 78 = .ok (.getfield 22, 3) := by decide +kernel
theorem dX12_beginBulk_81 : decode cX12_beginBulk 81 = .ok (.iload_n 2, 1) := by decide +kernel
theorem dX12_beginBulk_82 : decode cX12_beginBulk 82 = .ok (.iaload, 1) := by decide +kernel
theorem dX12_beginBulk_83 : decode cX12_beginBulk 83 = .ok (.imul, 1) := by decide +kernel
theorem dX12_beginBulk_84 : decode cX12_beginBulk 84 = .ok (.goto 9, 3) := by decide +kernel
theorem dX12_beginBulk_87 : decode cX12_beginBulk 87 = .ok (.aload_n 0, 1) := by decide +kernel
theorem dX12_beginBulk_88 : decode cX12_beginBulk 88 = .ok (.getfield 22, 3) := by decide +kernel
theorem dX12_beginBulk_91 : decode cX12_beginBulk 91 = .ok (.iload_n 2, 1) := by decide +kernel
theorem dX12_beginBulk_92 : decode cX12_beginBulk 92 = .ok (.iaload, 1) := by decide +kernel
theorem dX12_beginBulk_93 : decode cX12_beginBulk 93 = .ok (.ireturn, 1) := by decide +kernel
theorem dX12_bulk_0 : decode cX12_bulk 0 = .ok (.aload_n 0, 1) := by decide +kernel
theorem dX12_bulk_1 : decode cX12_bulk 1 = .ok (.iload_n 1, 1) := by decide +kernel
theorem dX12_bulk_2 : decode cX12_bulk 2 = .ok (.invokevirtual 180, 3) := by decide +kernel
theorem dX12_bulk_5 : decode cX12_bulk 5 = .ok (.ifCond .ne 5, 3) := by decide +kernel
theorem dX12_bulk_8 : decode cX12_bulk 8 = .ok (.iconst (-1), 1) := by decide +kernel
theorem dX12_bulk_9 : decode cX12_bulk 9 = .ok (.ireturn, 1) := by decide +kernel
theorem dX12_bulk_10 : decode cX12_bulk 10 = .ok (.aload_n 0, 1) := by decide +kernel
theorem dX12_bulk_11 : decode cX12_bulk 11 = .ok (.iconst 0, 1) := by decide +kernel
theorem dX12_bulk_12 : decode cX12_bulk 12 = .ok (.putfield 297, 3) := by decide +kernel
theorem dX12_bulk_15 : decode cX12_bulk 15 = .ok (.aload_n 0, 1) := by decide +kernel
theorem dX12_bulk_16 : decode cX12_bulk 16 = .ok (.iload_n 1, 1) := by decide +kernel
theorem dX12_bulk_17 : decode cX12_bulk 17 = .ok (.iconst 0, 1) := by decide +kernel
theorem dX12_bulk_18 : decode cX12_bulk 18 = .ok (.invokevirtual 184, 3) := by decide +kernel
theorem dX12_bulk_21 : decode cX12_bulk 21 = .ok (.ifCond .eq 9, 3) := by decide +kernel
theorem dX12_bulk_24 : decode cX12_bulk 24 = .ok (.aload_n 0, 1) := by decide +kernel
theorem dX12_bulk_25 : decode cX12_bulk 25 = .ok (.iconst 3, 1) := by decide +kernel
theorem dX12_bulk_26 : decode cX12_bulk 26 = .ok (.invokevirtual 233, 3) := by decide +kernel
theorem dX12_bulk_29 : decode cX12_bulk 29 = .ok (.ireturn, 1) := by decide +kernel
theorem dX12_bulk_30 : decode cX12_bulk 30 = .ok (.aload_n 0, 1) := by decide +kernel
theorem dX12_bulk_31 : decode cX12_bulk 31 = .ok (.iconst 1, 1) := by decide +kernel
theorem dX12_bulk_32 : decode cX12_bulk 32 = .ok (.putfield 294, 3) := by decide +kernel
theorem dX12_bulk_35 : decode cX12_bulk 35 = .ok (.aload_n 0, 1) := by decide +kernel
theorem dX12_bulk_36 : decode cX12_bulk 36 = .ok (.iconst 0, 1) := by decide +kernel
theorem dX12_bulk_37 : decode cX12_bulk 37 = .ok (.putfield 303, 3) := by decide +kernel
theorem dX12_bulk_40 : decode cX12_bulk 40 = .ok (.aload_n 0, 1) := by decide +kernel
theorem dX12_bulk_41 : decode cX12_bulk 41 = .ok (.iload_n 1, 1) := by decide +kernel
theorem dX12_bulk_42 : decode cX12_bulk 42 = .ok (.invokevirtual 315, 3) := by decide +kernel
theorem dX12_bulk_45 : decode cX12_bulk 45 = .ok (.istore_n 2, 1) := by decide +kernel
theorem dX12_bulk_46 : decode cX12_bulk 46 = .ok (.aload_n 0, 1) := by decide +kernel
theorem dX12_bulk_47 : decode cX12_bulk 47 = .ok (.iconst 0, 1) := by decide +kernel
theorem dX12_bulk_48 : decode cX12_bulk 48 = .ok (.putfield 294, 3) := by decide +kernel
theorem dX12_bulk_51 : decode cX12_bulk 51 = .ok (.aload_n 0, 1) := by decide +kernel
theorem dX12_bulk_52 : decode cX12_bulk 52 = .ok (.getfield 303, 3) := by decide +kernel
theorem dX12_bulk_55 : decode cX12_bulk 55 = .ok (.ifCond .eq 9, 3) := by decide +kernel
theorem dX12_bulk_58 : decode cX12_bulk 58 = .ok (.aload_n 0, 1) := by decide +kernel
theorem dX12_bulk_59 : decode cX12_bulk 59 = .ok (.iconst 4, 1) := by decide +kernel
theorem dX12_bulk_60 : decode cX12_bulk 60 = .ok (.invokevirtual 233, 3) := by decide +kernel
theorem dX12_bulk_63 : decode cX12_bulk 63 = .ok (.ireturn, 1) := by decide +kernel
theorem dX12_bulk_64 : decode cX12_bulk 64 = .ok (.aload_n 0, 1) := by decide +kernel
theorem dX12_bulk_65 : decode cX12_bulk 65 = .ok (.iload_n 2, 1) := by decide +kernel
theorem dX12_bulk_66 : decode cX12_bulk 66 = .ok (.i2l, 1) := by decide +kernel
theorem dX12_bulk_67 : decode cX12_bulk 67 = .ok (.putfield 318, 3) := by decide +kernel
theorem dX12_bulk_70 : decode cX12_bulk 70 = .ok (.iconst 1, 1) := by decide +kernel
theorem dX12_bulk_71 : decode cX12_bulk 71 = .ok (.ireturn, 1) := by decide +kernel
theorem dX12_asked_0 : decode cX12_asked 0 = .ok (.aload_n 0, 1) := by decide +kernel
theorem dX12_asked_1 : decode cX12_asked 1 = .ok (.getfield 318, 3) := by decide +kernel
theorem dX12_asked_4 : decode cX12_asked 4 = .ok (.lreturn, 1) := by decide +kernel
theorem dX12_trace_0 : decode cX12_trace 0 = .ok (.iload_n 1, 1) := by decide +kernel
theorem dX12_trace_1 : decode cX12_trace 1 = .ok (.i2l, 1) := by decide +kernel
theorem dX12_trace_2 : decode cX12_trace 2 = .ok (.lconst 0, 1) := by decide +kernel
theorem dX12_trace_3 : decode cX12_trace 3 = .ok (.aload_n 0, 1) := by decide +kernel
theorem dX12_trace_4 : decode cX12_trace 4 = .ok (.getfield 297, 3) := by decide +kernel
theorem dX12_trace_7 : decode cX12_trace 7 = .ok (.iconst 1, 1) := by decide +kernel
theorem dX12_trace_8 : decode cX12_trace 8 = .ok (.isub, 1) := by decide +kernel
theorem dX12_trace_9 : decode cX12_trace 9 = .ok (.i2l, 1) := by decide +kernel
theorem dX12_trace_10 : decode cX12_trace 10 = .ok (.invokestatic 166, 3) := by decide +kernel
theorem dX12_trace_13 : decode cX12_trace 13 = .ok (.ifCond .eq 12, 3) := by decide +kernel
theorem dX12_trace_16 : decode cX12_trace 16 = .ok (.aload_n 0, 1) := by decide +kernel
theorem dX12_trace_17 : decode cX12_trace 17 = .ok (.getfield 77, 3) := by decide +kernel
theorem dX12_trace_20 : decode cX12_trace 20 = .ok (.iload_n 1, 1) := by decide +kernel
theorem dX12_trace_21 : decode cX12_trace 21 = .ok (.iaload, 1) := by decide +kernel
theorem dX12_trace_22 : decode cX12_trace 22 = .ok (.goto 5, 3) := by decide +kernel
theorem dX12_trace_25 : decode cX12_trace 25 = .ok (.bipush (-9), 2) := by decide +kernel
theorem dX12_trace_27 : decode cX12_trace 27 = .ok (.ireturn, 1) := by decide +kernel
theorem dX12_share_0 : decode cX12_share 0 = .ok (.aload_n 0, 1) := by decide +kernel
theorem dX12_share_1 : decode cX12_share 1 = .ok (.iload_n 1, 1) := by decide +kernel
theorem dX12_share_2 : decode cX12_share 2 = .ok (.invokevirtual 180, 3) := by decide +kernel
theorem dX12_share_5 : decode cX12_share 5 = .ok (.ifCond .eq 11, 3) := by decide +kernel
theorem dX12_share_8 : decode cX12_share 8 = .ok (.aload_n 0, 1) := by decide +kernel
theorem dX12_share_9 : decode cX12_share 9 = .ok (.iload_n 2, 1) := by decide +kernel
theorem dX12_share_10 : decode cX12_share 10 = .ok (.invokevirtual 180, 3) := by decide +kernel
theorem dX12_share_13 : decode cX12_share 13 = .ok (.ifCond .ne 5, 3) := by decide +kernel
theorem dX12_share_16 : decode cX12_share 16 = .ok (.iconst (-1), 1) := by decide +kernel
theorem dX12_share_17 : decode cX12_share 17 = .ok (.ireturn, 1) := by decide +kernel
theorem dX12_share_18 : decode cX12_share 18 = .ok (.aload_n 0, 1) := by decide +kernel
theorem dX12_share_19 : decode cX12_share 19 = .ok (.iload_n 1, 1) := by decide +kernel
theorem dX12_share_20 : decode cX12_share 20 = .ok (.iconst 0, 1) := by decide +kernel
theorem dX12_share_21 : decode cX12_share 21 = .ok (.invokevirtual 184, 3) := by decide +kernel
theorem dX12_share_24 : decode cX12_share 24 = .ok (.ifCond .eq 9, 3) := by decide +kernel
theorem dX12_share_27 : decode cX12_share 27 = .ok (.aload_n 0, 1) := by decide +kernel
theorem dX12_share_28 : decode cX12_share 28 = .ok (.iconst 3, 1) := by decide +kernel
theorem dX12_share_29 : decode cX12_share 29 = .ok (.invokevirtual 233, 3) := by decide +kernel
theorem dX12_share_32 : decode cX12_share 32 = .ok (.ireturn, 1) := by decide +kernel
theorem dX12_share_33 : decode cX12_share 33 = .ok (.aload_n 0, 1) := by decide +kernel
theorem dX12_share_34 : decode cX12_share 34 = .ok (.iconst 0, 1) := by decide +kernel
theorem dX12_share_35 : decode cX12_share 35 = .ok (.putfield 303, 3) := by decide +kernel
theorem dX12_share_38 : decode cX12_share 38 = .ok (.aload_n 0, 1) := by decide +kernel
theorem dX12_share_39 : decode cX12_share 39 = .ok (.iload_n 1, 1) := by decide +kernel
theorem dX12_share_40 : decode cX12_share 40 = .ok (.invokevirtual 315, 3) := by decide +kernel
theorem dX12_share_43 : decode cX12_share 43 = .ok (.i2l, 1) := by decide +kernel
theorem dX12_share_44 : decode cX12_share 44 = .ok (.lstore_n 3, 1) := by decide +kernel
theorem dX12_share_45 : decode cX12_share 45 = .ok (.lconst 0, 1) := by decide +kernel
theorem dX12_share_46 : decode cX12_share 46 = .ok (.lstore 5, 2) := by decide +kernel
theorem dX12_share_48 : decode cX12_share 48 = .ok (.iconst 0, 1) := by decide +kernel
theorem dX12_share_49 : decode cX12_share 49 = .ok (.istore 7, 2) := by decide +kernel
theorem dX12_share_51 : decode cX12_share 51 = .ok (.iload 7, 2) := by decide +kernel
theorem dX12_share_53 : decode cX12_share 53 = .ok (.aload_n 0, 1) := by decide +kernel
theorem dX12_share_54 : decode cX12_share 54 = .ok (.getfield 177, 3) := by decide +kernel
theorem dX12_share_57 : decode cX12_share 57 = .ok (.if_icmp .ge 46, 3) := by decide +kernel
theorem dX12_share_60 : decode cX12_share 60 = .ok (.lload 5, 2) := by decide +kernel
theorem dX12_share_62 : decode cX12_share 62 = .ok (.aload_n 0, 1) := by decide +kernel
theorem dX12_share_63 : decode cX12_share 63 = .ok (.iload 7, 2) := by decide +kernel
theorem dX12_share_65 : decode cX12_share 65 = .ok (.invokevirtual 309, 3) := by decide +kernel
theorem dX12_share_68 : decode cX12_share 68 = .ok (.bipush (-9), 2) := by decide +kernel
theorem dX12_share_70 : decode cX12_share 70 = .ok (.if_icmp .eq 23, 3) := by decide +kernel
theorem dX12_share_73 : decode cX12_share 73 = .ok (.aload_n 0, 1) := by decide +kernel
theorem dX12_share_74 : decode cX12_share 74 = .ok (.iload 7, 2) := by decide +kernel
theorem dX12_share_76 : decode cX12_share 76 = .ok (.invokevirtual 312, 3) := by decide +kernel
theorem dX12_share_79 : decode cX12_share 79 = .ok (.iload_n 2, 1) := by decide +kernel
theorem dX12_share_80 : decode cX12_share 80 = .ok (.if_icmp .ne 13, 3) := by decide +kernel
theorem dX12_share_83 : decode cX12_share 83 = .ok (.aload_n 0, 1) := by decide +kernel
theorem dX12_share_84 : decode cX12_share 84 = .ok (.iload 7, 2) := by decide +kernel
theorem dX12_share_86 : decode cX12_share 86 = .ok (.invokevirtual 315, 3) := by decide +kernel
theorem dX12_share_89 : decode cX12_share 89 = .ok (.i2l, 1) := by decide +kernel
theorem dX12_share_90 : decode cX12_share 90 = .ok (.goto 4, 3) := by decide +kernel
theorem dX12_share_93 : decode cX12_share 93 = .ok (.lconst 0, 1) := by decide +kernel
theorem dX12_share_94 : decode cX12_share 94 = .ok (.ladd, 1) := by decide +kernel
theorem dX12_share_95 : decode cX12_share 95 = .ok (.lstore 5, 2) := by decide +kernel
theorem dX12_share_97 : decode cX12_share 97 = .ok (.iinc 7 1, 3) := by decide +kernel
theorem dX12_share_100 : decode cX12_share 100 = .ok (.goto (-49), 3) := by decide +kernel
theorem dX12_share_103 : decode cX12_share 103 = .ok (.aload_n 0, 1) := by decide +kernel
theorem dX12_share_104 : decode cX12_share 104 = .ok (.getfield 303, 3) := by decide +kernel
theorem dX12_share_107 : decode cX12_share 107 = .ok (.ifCond .ne 10, 3) := by decide +kernel
theorem dX12_share_110 : decode cX12_share 110 = .ok (.lload 5, 2) := by decide +kernel
theorem dX12_share_112 : decode cX12_share 112 = .ok (.lconst 0, 1) := by decide +kernel
theorem dX12_share_113 : decode cX12_share 113 = .ok (.lcmp, 1) := by decide +kernel
theorem dX12_share_114 : decode cX12_share 114 = .ok (.ifCond .ne 9, 3) := by decide +kernel
theorem dX12_share_117 : decode cX12_share 117 = .ok (.aload_n 0, 1) := by decide +kernel
theorem dX12_share_118 : decode cX12_share 118 = .ok (.iconst 4, 1) := by decide +kernel
theorem dX12_share_119 : decode cX12_share 119 = .ok (.invokevirtual 233, 3) := by decide +kernel
theorem dX12_share_122 : decode cX12_share 122 = .ok (.ireturn, 1) := by decide +kernel
theorem dX12_share_123 : decode cX12_share 123 = .ok (.aload_n 0, 1) := by decide +kernel
theorem dX12_share_124 : decode cX12_share 124 = .ok (.ldc2_w 322, 3) := by decide +kernel
theorem dX12_share_127 : decode cX12_share 127 = .ok (.lload_n 3, 1) := by decide +kernel
theorem dX12_share_128 : decode cX12_share 128 = .ok (.lmul, 1) := by decide +kernel
theorem dX12_share_129 : decode cX12_share 129 = .ok (.lload 5, 2) := by decide +kernel
theorem dX12_share_131 : decode cX12_share 131 = .ok (.ldiv, 1) := by decide +kernel
theorem dX12_share_132 : decode cX12_share 132 = .ok (.putfield 318, 3) := by decide +kernel
theorem dX12_share_135 : decode cX12_share 135 = .ok (.iconst 1, 1) := by decide +kernel
theorem dX12_share_136 : decode cX12_share 136 = .ok (.ireturn, 1) := by decide +kernel
theorem dX12_lookAtKinds_0 : decode cX12_lookAtKinds 0 = .ok (.iconst 0, 1) := by decide +kernel
theorem dX12_lookAtKinds_1 : decode cX12_lookAtKinds 1 = .ok (.istore_n 1, 1) := by decide +kernel
theorem dX12_lookAtKinds_2 : decode cX12_lookAtKinds 2 = .ok (.iload_n 1, 1) := by decide +kernel
theorem dX12_lookAtKinds_3 : decode cX12_lookAtKinds 3 = .ok (.aload_n 0, 1) := by decide +kernel
theorem dX12_lookAtKinds_4 : decode cX12_lookAtKinds 4 = .ok (.getfield 177, 3) := by decide +kernel
theorem dX12_lookAtKinds_7 : decode cX12_lookAtKinds 7 = .ok (.if_icmp .ge 96, 3) := by decide +kernel
theorem dX12_lookAtKinds_10 : decode cX12_lookAtKinds 10 = .ok (.aload_n 0, 1) := by decide +kernel
theorem dX12_lookAtKinds_11 : decode cX12_lookAtKinds 11 = .ok (.getfield 92, 3) := by decide +kernel
theorem dX12_lookAtKinds_14 : decode cX12_lookAtKinds 14 = .ok (.iload_n 1, 1) := by decide +kernel
theorem dX12_lookAtKinds_15 : decode cX12_lookAtKinds 15 = .ok (.aload_n 0, 1) := by decide +kernel
theorem dX12_lookAtKinds_16 : decode cX12_lookAtKinds 16 = .ok (.iload_n 1, 1) := by decide +kernel
theorem dX12_lookAtKinds_17 : decode cX12_lookAtKinds 17 = .ok (.iconst 2, 1) := by decide +kernel
theorem dX12_lookAtKinds_18 : decode cX12_lookAtKinds 18 = .ok (.invokevirtual 256, 3) := by decide +kernel
theorem dX12_lookAtKinds_21 : decode cX12_lookAtKinds 21 = .ok (.iconst 1, 1) := by decide +kernel
theorem dX12_lookAtKinds_22 : decode cX12_lookAtKinds 22 = .ok (.if_icmp .ne 7, 3) := by decide +kernel
theorem dX12_lookAtKinds_25 : decode cX12_lookAtKinds 25 = .ok (.iconst 1, 1) := by decide +kernel
theorem dX12_lookAtKinds_26 : decode cX12_lookAtKinds 26 = .ok (.goto 4, 3) := by decide +kernel
theorem dX12_lookAtKinds_29 : decode cX12_lookAtKinds 29 = .ok (.iconst 0, 1) := by decide +kernel
theorem dX12_lookAtKinds_30 : decode cX12_lookAtKinds 30 = .ok (.bastore, 1) := by decide +kernel
theorem dX12_lookAtKinds_31 : decode cX12_lookAtKinds 31 = .ok (.aload_n 0, 1) := by decide +kernel
theorem dX12_lookAtKinds_32 : decode cX12_lookAtKinds 32 = .ok (.getfield 98, 3) := by decide +kernel
theorem dX12_lookAtKinds_35 : decode cX12_lookAtKinds 35 = .ok (.iload_n 1, 1) := by decide +kernel
theorem dX12_lookAtKinds_36 : decode cX12_lookAtKinds 36 = .ok (.aload_n 0, 1) := by decide +kernel
theorem dX12_lookAtKinds_37 : decode cX12_lookAtKinds 37 = .ok (.iload_n 1, 1) := by decide +kernel
theorem dX12_lookAtKinds_38 : decode cX12_lookAtKinds 38 = .ok (.iconst 3, 1) := by decide +kernel
theorem dX12_lookAtKinds_39 : decode cX12_lookAtKinds 39 = .ok (.invokevirtual 184, 3) := by decide +kernel
theorem dX12_lookAtKinds_42 : decode cX12_lookAtKinds 42 = .ok (.bastore, 1) := by decide +kernel
theorem dX12_lookAtKinds_43 : decode cX12_lookAtKinds 43 = .ok (.aload_n 0, 1) := by decide +kernel
theorem dX12_lookAtKinds_44 : decode cX12_lookAtKinds 44 = .ok (.getfield 101, 3) := by decide +kernel
theorem dX12_lookAtKinds_47 : decode cX12_lookAtKinds 47 = .ok (.iload_n 1, 1) := by decide +kernel
theorem dX12_lookAtKinds_48 : decode cX12_lookAtKinds 48 = .ok (.aload_n 0, 1) := by decide +kernel
theorem dX12_lookAtKinds_49 : decode cX12_lookAtKinds 49 = .ok (.iload_n 1, 1) := by decide +kernel
theorem dX12_lookAtKinds_50 : decode cX12_lookAtKinds 50 = .ok (.iconst 0, 1) := by decide +kernel
theorem dX12_lookAtKinds_51 : decode cX12_lookAtKinds 51 = .ok (.invokevirtual 184, 3) := by decide +kernel
theorem dX12_lookAtKinds_54 : decode cX12_lookAtKinds 54 = .ok (.bastore, 1) := by decide +kernel
theorem dX12_lookAtKinds_55 : decode cX12_lookAtKinds 55 = .ok (.aload_n 0, 1) := by decide +kernel
theorem dX12_lookAtKinds_56 : decode cX12_lookAtKinds 56 = .ok (.getfield 104, 3) := by decide +kernel
theorem dX12_lookAtKinds_59 : decode cX12_lookAtKinds 59 = .ok (.iload_n 1, 1) := by decide +kernel
theorem dX12_lookAtKinds_60 : decode cX12_lookAtKinds 60 = .ok (.aload_n 0, 1) := by decide +kernel
theorem dX12_lookAtKinds_61 : decode cX12_lookAtKinds 61 = .ok (.iload_n 1, 1) := by decide +kernel
theorem dX12_lookAtKinds_62 : decode cX12_lookAtKinds 62 = .ok (.iconst 2, 1) := by decide +kernel
theorem dX12_lookAtKinds_63 : decode cX12_lookAtKinds 63 = .ok (.invokevirtual 184, 3) := by decide +kernel
theorem dX12_lookAtKinds_66 : decode cX12_lookAtKinds 66 = .ok (.bastore, 1) := by decide +kernel
theorem dX12_lookAtKinds_67 : decode cX12_lookAtKinds 67 = .ok (.aload_n 0, 1) := by decide +kernel
theorem dX12_lookAtKinds_68 : decode cX12_lookAtKinds 68 = .ok (.getfield 95, 3) := by decide +kernel
theorem dX12_lookAtKinds_71 : decode cX12_lookAtKinds 71 = .ok (.iload_n 1, 1) := by decide +kernel
theorem dX12_lookAtKinds_72 : decode cX12_lookAtKinds 72 = .ok (.aload_n 0, 1) := by decide +kernel
theorem dX12_lookAtKinds_73 : decode cX12_lookAtKinds 73 = .ok (.getfield 98, 3) := by decide +kernel
theorem dX12_lookAtKinds_76 : decode cX12_lookAtKinds 76 = .ok (.iload_n 1, 1) := by decide +kernel
theorem dX12_lookAtKinds_77 : decode cX12_lookAtKinds 77 = .ok (.baload, 1) := by decide +kernel
theorem dX12_lookAtKinds_78 : decode cX12_lookAtKinds 78 = .ok (.ifCond .eq 17, 3) := by decide +kernel
theorem dX12_lookAtKinds_81 : decode cX12_lookAtKinds 81 = .ok (.aload_n 0, 1) := by decide +kernel
theorem dX12_lookAtKinds_82 : decode cX12_lookAtKinds 82 = .ok (.iload_n 1, 1) := by decide +kernel
theorem dX12_lookAtKinds_83 : decode cX12_lookAtKinds 83 = .ok (.iconst 5, 1) := by decide +kernel
theorem dX12_lookAtKinds_84 : decode cX12_lookAtKinds 84 = .ok (.invokevirtual 256, 3) := by decide +kernel
theorem dX12_lookAtKinds_87 : decode cX12_lookAtKinds 87 = .ok (.iconst 1, 1) := by decide +kernel
theorem dX12_lookAtKinds_88 : decode cX12_lookAtKinds 88 = .ok (.if_icmp .ne 7, 3) := by decide +kernel
theorem dX12_lookAtKinds_91 : decode cX12_lookAtKinds 91 = .ok (.iconst 1, 1) := by decide +kernel
theorem dX12_lookAtKinds_92 : decode cX12_lookAtKinds 92 = .ok (.goto 4, 3) := by decide +kernel
theorem dX12_lookAtKinds_95 : decode cX12_lookAtKinds 95 = .ok (.iconst 0, 1) := by decide +kernel
theorem dX12_lookAtKinds_96 : decode cX12_lookAtKinds 96 = .ok (.bastore, 1) := by decide +kernel
theorem dX12_lookAtKinds_97 : decode cX12_lookAtKinds 97 = .ok (.iinc 1 1, 3) := by decide +kernel
theorem dX12_lookAtKinds_100 : decode cX12_lookAtKinds 100 = .ok (.goto (-98), 3) := by decide +kernel
theorem dX12_lookAtKinds_103 : decode cX12_lookAtKinds 103 = .ok (.return_, 1) := by decide +kernel
theorem dX12_shuts_0 : decode cX12_shuts 0 = .ok (.aload_n 0, 1) := by decide +kernel
theorem dX12_shuts_1 : decode cX12_shuts 1 = .ok (.getfield 98, 3) := by decide +kernel
theorem dX12_shuts_4 : decode cX12_shuts 4 = .ok (.iload_n 1, 1) := by decide +kernel
theorem dX12_shuts_5 : decode cX12_shuts 5 = .ok (.baload, 1) := by decide +kernel
theorem dX12_shuts_6 : decode cX12_shuts 6 = .ok (.ifCond .eq 29, 3) := by decide +kernel
theorem dX12_shuts_9 : decode cX12_shuts 9 = .ok (.aload_n 0, 1) := by decide +kernel
