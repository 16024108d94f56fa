theorem dX12_isExitBarred_12 : decode cX12_isExitBarred 12 = .ok (.aload_n 0, 1) := by decide +kernel
theorem dX12_isExitBarred_13 : decode cX12_isExitBarred 13 = .ok (.getfield 37, 3) := by decide +kernel
theorem dX12_isExitBarred_16 : decode cX12_isExitBarred 16 = .ok (.iload 4, 2) := by decide +kernel
theorem dX12_isExitBarred_18 : decode cX12_isExitBarred 18 = .ok (.baload, 1) := by decide +kernel
theorem dX12_isExitBarred_19 : decode cX12_isExitBarred 19 = .ok (.ifCond .eq 44, 3) := by decide +kernel
theorem dX12_isExitBarred_22 : decode cX12_isExitBarred 22 = .ok (.aload_n 0, 1) := by decide +kernel
theorem dX12_isExitBarred_23 : decode cX12_isExitBarred 23 = .ok (.getfield 25, 3) := by decide +kernel
theorem dX12_isExitBarred_26 : decode cX12_isExitBarred 26 = .ok (.iload 4, 2) := by decide +kernel
theorem dX12_isExitBarred_28 : decode cX12_isExitBarred 28 = .ok (.iaload, 1) := by decide +kernel
theorem dX12_isExitBarred_29 : decode cX12_isExitBarred 29 = .ok (.iconst 5, 1) := by decide +kernel
theorem dX12_isExitBarred_30 : decode cX12_isExitBarred 30 = .ok (.if_icmp .ne 33, 3) := by decide +kernel
theorem dX12_isExitBarred_33 : decode cX12_isExitBarred 33 = .ok (.aload_n 0, 1) := by decide +kernel
theorem dX12_isExitBarred_34 : decode cX12_isExitBarred 34 = .ok (.getfield 28, 3) := by decide +kernel
theorem dX12_isExitBarred_37 : decode cX12_isExitBarred 37 = .ok (.iload 4, 2) := by decide +kernel
theorem dX12_isExitBarred_39 : decode cX12_isExitBarred 39 = .ok (.iaload, 1) := by decide +kernel
theorem dX12_isExitBarred_40 : decode cX12_isExitBarred 40 = .ok (.iload_n 1, 1) := by decide +kernel
theorem dX12_isExitBarred_41 : decode cX12_isExitBarred 41 = .ok (.if_icmp .ne 22, 3) := by decide +kernel
theorem dX12_isExitBarred_44 : decode cX12_isExitBarred 44 = .ok (.aload_n 0, 1) := by decide +kernel
theorem dX12_isExitBarred_45 : decode cX12_isExitBarred 45 = .ok (.getfield 34, 3) := by decide +kernel
theorem dX12_isExitBarred_48 : decode cX12_isExitBarred 48 = .ok (.iload 4, 2) := by decide +kernel
theorem dX12_isExitBarred_50 : decode cX12_isExitBarred 50 = .ok (.iaload, 1) := by decide +kernel
theorem dX12_isExitBarred_51 : decode cX12_isExitBarred 51 = .ok (.iload_n 3, 1) := by decide +kernel
theorem dX12_isExitBarred_52 : decode cX12_isExitBarred 52 = .ok (.if_icmp .ne 11, 3) := by decide +kernel
theorem dX12_isExitBarred_55 : decode cX12_isExitBarred 55 = .ok (.aload_n 0, 1) := by decide +kernel
theorem dX12_isExitBarred_56 : decode cX12_isExitBarred 56 = .ok (.iload 4, 2) := by decide +kernel
theorem dX12_isExitBarred_58 : decode cX12_isExitBarred 58 = .ok (.invokevirtual 212, 3) := by decide +kernel
theorem dX12_isExitBarred_61 : decode cX12_isExitBarred 61 = .ok (.iconst 1, 1) := by decide +kernel
theorem dX12_isExitBarred_62 : decode cX12_isExitBarred 62 = .ok (.ireturn, 1) := by decide +kernel
theorem dX12_isExitBarred_63 : decode cX12_isExitBarred 63 = .ok (.iinc 4 1, 3) := by decide +kernel
theorem dX12_isExitBarred_66 : decode cX12_isExitBarred 66 = .ok (.goto (-63), 3) := by decide +kernel
theorem dX12_isExitBarred_69 : decode cX12_isExitBarred 69 = .ok (.aload_n 0, 1) := by decide +kernel
theorem dX12_isExitBarred_70 : decode cX12_isExitBarred 70 = .ok (.iload_n 2, 1) := by decide +kernel
theorem dX12_isExitBarred_71 : decode cX12_isExitBarred 71 = .ok (.iconst 2, 1) := by decide +kernel
theorem dX12_isExitBarred_72 : decode cX12_isExitBarred 72 = .ok (.invokevirtual 184, 3) := by decide +kernel
theorem dX12_isExitBarred_75 : decode cX12_isExitBarred 75 = .ok (.ifCond .ne 5, 3) := by decide +kernel
theorem dX12_isExitBarred_78 : decode cX12_isExitBarred 78 = .ok (.iconst 0, 1) := by decide +kernel
theorem dX12_isExitBarred_79 : decode cX12_isExitBarred 79 = .ok (.ireturn, 1) := by decide +kernel
theorem dX12_isExitBarred_80 : decode cX12_isExitBarred 80 = .ok (.iconst 0, 1) := by decide +kernel
theorem dX12_isExitBarred_81 : decode cX12_isExitBarred 81 = .ok (.istore 4, 2) := by decide +kernel
theorem dX12_isExitBarred_83 : decode cX12_isExitBarred 83 = .ok (.iload 4, 2) := by decide +kernel
theorem dX12_isExitBarred_85 : decode cX12_isExitBarred 85 = .ok (.aload_n 0, 1) := by decide +kernel
theorem dX12_isExitBarred_86 : decode cX12_isExitBarred 86 = .ok (.getfield 202, 3) := by decide +kernel
theorem dX12_isExitBarred_89 : decode cX12_isExitBarred 89 = .ok (.if_icmp .ge 60, 3) := by decide +kernel
theorem dX12_isExitBarred_92 : decode cX12_isExitBarred 92 = .ok (.aload_n 0, 1) := by decide +kernel
theorem dX12_isExitBarred_93 : decode cX12_isExitBarred 93 = .ok (.getfield 37, 3) := by decide +kernel
theorem dX12_isExitBarred_96 : decode cX12_isExitBarred 96 = .ok (.iload 4, 2) := by decide +kernel
theorem dX12_isExitBarred_98 : decode cX12_isExitBarred 98 = .ok (.baload, 1) := by decide +kernel
theorem dX12_isExitBarred_99 : decode cX12_isExitBarred 99 = .ok (.ifCond .eq 44, 3) := by decide +kernel
theorem dX12_isExitBarred_102 : decode cX12_isExitBarred 102 = .ok (.aload_n 0, 1) := by decide +kernel
theorem dX12_isExitBarred_103 : decode cX12_isExitBarred 103 = .ok (.getfield 25, 3) := by decide +kernel
theorem dX12_isExitBarred_106 : decode cX12_isExitBarred 106 = .ok (.iload 4, 2) := by decide +kernel
theorem dX12_isExitBarred_108 : decode cX12_isExitBarred 108 = .ok (.iaload, 1) := by decide +kernel
theorem dX12_isExitBarred_109 : decode cX12_isExitBarred 109 = .ok (.iconst 5, 1) := by decide +kernel
theorem dX12_isExitBarred_110 : decode cX12_isExitBarred 110 = .ok (.if_icmp .ne 33, 3) := by decide +kernel
theorem dX12_isExitBarred_113 : decode cX12_isExitBarred 113 = .ok (.aload_n 0, 1) := by decide +kernel
theorem dX12_isExitBarred_114 : decode cX12_isExitBarred 114 = .ok (.getfield 28, 3) := by decide +kernel
theorem dX12_isExitBarred_117 : decode cX12_isExitBarred 117 = .ok (.iload 4, 2) := by decide +kernel
theorem dX12_isExitBarred_119 : decode cX12_isExitBarred 119 = .ok (.iaload, 1) := by decide +kernel
theorem dX12_isExitBarred_120 : decode cX12_isExitBarred 120 = .ok (.iload_n 1, 1) := by decide +kernel
theorem dX12_isExitBarred_121 : decode cX12_isExitBarred 121 = .ok (.if_icmp .ne 22, 3) := by decide +kernel
theorem dX12_isExitBarred_124 : decode cX12_isExitBarred 124 = .ok (.aload_n 0, 1) := by decide +kernel
theorem dX12_isExitBarred_125 : decode cX12_isExitBarred 125 = .ok (.getfield 31, 3) := by decide +kernel
theorem dX12_isExitBarred_128 : decode cX12_isExitBarred 128 = .ok (.iload 4, 2) := by decide +kernel
theorem dX12_isExitBarred_130 : decode cX12_isExitBarred 130 = .ok (.iaload, 1) := by decide +kernel
theorem dX12_isExitBarred_131 : decode cX12_isExitBarred 131 = .ok (.iload_n 2, 1) := by decide +kernel
theorem dX12_isExitBarred_132 : decode cX12_isExitBarred 132 = .ok (.if_icmp .ne 11, 3) := by decide +kernel
theorem dX12_isExitBarred_135 : decode cX12_isExitBarred 135 = .ok (.aload_n 0, 1) := by decide +kernel
theorem dX12_isExitBarred_136 : decode cX12_isExitBarred 136 = .ok (.iload 4, 2) := by decide +kernel
theorem dX12_isExitBarred_138 : decode cX12_isExitBarred 138 = .ok (.invokevirtual 212, 3) := by decide +kernel
theorem dX12_isExitBarred_141 : decode cX12_isExitBarred 141 = .ok (.iconst 1, 1) := by decide +kernel
theorem dX12_isExitBarred_142 : decode cX12_isExitBarred 142 = .ok (.ireturn, 1) := by decide +kernel
theorem dX12_isExitBarred_143 : decode cX12_isExitBarred 143 = .ok (.iinc 4 1, 3) := by decide +kernel
theorem dX12_isExitBarred_146 : decode cX12_isExitBarred 146 = .ok (.goto (-63), 3) := by decide +kernel
theorem dX12_isExitBarred_149 : decode cX12_isExitBarred 149 = .ok (.iconst 0, 1) := by decide +kernel
theorem dX12_isExitBarred_150 : decode cX12_isExitBarred 150 = .ok (.istore 4, 2) := by decide +kernel
theorem dX12_isExitBarred_152 : decode cX12_isExitBarred 152 = .ok (.iload 4, 2) := by decide +kernel
theorem dX12_isExitBarred_154 : decode cX12_isExitBarred 154 = .ok (.aload_n 0, 1) := by decide +kernel
theorem dX12_isExitBarred_155 : decode cX12_isExitBarred 155 = .ok (.getfield 202, 3) := by decide +kernel
theorem dX12_isExitBarred_158 : decode cX12_isExitBarred 158 = .ok (.if_icmp .ge 47, 3) := by decide +kernel
theorem dX12_isExitBarred_161 : decode cX12_isExitBarred 161 = .ok (.aload_n 0, 1) := by decide +kernel
theorem dX12_isExitBarred_162 : decode cX12_isExitBarred 162 = .ok (.getfield 37, 3) := by decide +kernel
theorem dX12_isExitBarred_165 : decode cX12_isExitBarred 165 = .ok (.iload 4, 2) := by decide +kernel
theorem dX12_isExitBarred_167 : decode cX12_isExitBarred 167 = .ok (.baload, 1) := by decide +kernel
theorem dX12_isExitBarred_168 : decode cX12_isExitBarred 168 = .ok (.ifCond .eq 31, 3) := by decide +kernel
theorem dX12_isExitBarred_171 : decode cX12_isExitBarred 171 = .ok (.aload_n 0, 1) := by decide +kernel
theorem dX12_isExitBarred_172 : decode cX12_isExitBarred 172 = .ok (.getfield 25, 3) := by decide +kernel
theorem dX12_isExitBarred_175 : decode cX12_isExitBarred 175 = .ok (.iload 4, 2) := by decide +kernel
theorem dX12_isExitBarred_177 : decode cX12_isExitBarred 177 = .ok (.iaload, 1) := by decide +kernel
theorem dX12_isExitBarred_178 : decode cX12_isExitBarred 178 = .ok (.iconst 5, 1) := by decide +kernel
theorem dX12_isExitBarred_179 : decode cX12_isExitBarred 179 = .ok (.if_icmp .ne 20, 3) := by decide +kernel
theorem dX12_isExitBarred_182 : decode cX12_isExitBarred 182 = .ok (.aload_n 0, 1) := by decide +kernel
theorem dX12_isExitBarred_183 : decode cX12_isExitBarred 183 = .ok (.getfield 31, 3) := by decide +kernel
theorem dX12_isExitBarred_186 : decode cX12_isExitBarred 186 = .ok (.iload 4, 2) := by decide +kernel
theorem dX12_isExitBarred_188 : decode cX12_isExitBarred 188 = .ok (.iaload, 1) := by decide +kernel
theorem dX12_isExitBarred_189 : decode cX12_isExitBarred 189 = .ok (.iload_n 2, 1) := by decide +kernel
theorem dX12_isExitBarred_190 : decode cX12_isExitBarred 190 = .ok (.if_icmp .ne 9, 3) := by decide +kernel
theorem dX12_isExitBarred_193 : decode cX12_isExitBarred 193 = .ok (.aload_n 0, 1) := by decide +kernel
theorem dX12_isExitBarred_194 : decode cX12_isExitBarred 194 = .ok (.iload 4, 2) := by decide +kernel
theorem dX12_isExitBarred_196 : decode cX12_isExitBarred 196 = .ok (.invokevirtual 212, 3) := by decide +kernel
theorem dX12_isExitBarred_199 : decode cX12_isExitBarred 199 = .ok (.iinc 4 1, 3) := by decide +kernel
theorem dX12_isExitBarred_202 : decode cX12_isExitBarred 202 = .ok (.goto (-50), 3) := by decide +kernel
theorem dX12_isExitBarred_205 : decode cX12_isExitBarred 205 = .ok (.aload_n 0, 1) := by decide +kernel
theorem dX12_isExitBarred_206 : decode cX12_isExitBarred 206 = .ok (.getfield 205, 3) := by decide +kernel
theorem dX12_isExitBarred_209 : decode cX12_isExitBarred 209 = .ok (.iconst 2, 1) := by decide +kernel
theorem dX12_isExitBarred_210 : decode cX12_isExitBarred 210 = .ok (.if_icmp .ge 8, 3) := by decide +kernel
theorem dX12_isExitBarred_213 : decode cX12_isExitBarred 213 = .ok (.aload_n 0, 1) := by decide +kernel
theorem dX12_isExitBarred_214 : decode cX12_isExitBarred 214 = .ok (.iconst 0, 1) := by decide +kernel
theorem dX12_isExitBarred_215 : decode cX12_isExitBarred 215 = .ok (.putfield 205, 3) := by decide +kernel
theorem dX12_isExitBarred_218 : decode cX12_isExitBarred 218 = .ok (.aload_n 0, 1) := by decide +kernel
theorem dX12_isExitBarred_219 : decode cX12_isExitBarred 219 = .ok (.getfield 205, 3) := by decide +kernel
theorem dX12_isExitBarred_222 : decode cX12_isExitBarred 222 = .ok (.ifCond .le 7, 3) := by decide +kernel
theorem dX12_isExitBarred_225 : decode cX12_isExitBarred 225 = .ok (.iconst 1, 1) := by decide +kernel
theorem dX12_isExitBarred_226 : decode cX12_isExitBarred 226 = .ok (.goto 4, 3) := by decide +kernel
theorem dX12_isExitBarred_229 : decode cX12_isExitBarred 229 = .ok (.iconst 0, 1) := by decide +kernel
theorem dX12_isExitBarred_230 : decode cX12_isExitBarred 230 = .ok (.ireturn, 1) := by decide +kernel
theorem dX12_isFlagBarred_0 : decode cX12_isFlagBarred 0 = .ok (.aload_n 0, 1) := by decide +kernel
theorem dX12_isFlagBarred_1 : decode cX12_isFlagBarred 1 = .ok (.bipush 6, 2) := by decide +kernel
theorem dX12_isFlagBarred_3 : decode cX12_isFlagBarred 3 = .ok (.iload_n 1, 1) := by decide +kernel
theorem dX12_isFlagBarred_4 : decode cX12_isFlagBarred 4 = .ok (.iload_n 2, 1) := by decide +kernel
theorem dX12_isFlagBarred_5 : decode cX12_isFlagBarred 5 = .ok (.iconst 1, 1) := by decide +kernel
theorem dX12_isFlagBarred_6 : decode cX12_isFlagBarred 6 = .ok (.iload_n 3, 1) := by decide +kernel
theorem dX12_isFlagBarred_7 : decode cX12_isFlagBarred 7 = .ok (.isub, 1) := by decide +kernel
theorem dX12_isFlagBarred_8 : decode cX12_isFlagBarred 8 = .ok (.invokevirtual 216, 3) := by decide +kernel
theorem dX12_isFlagBarred_11 : decode cX12_isFlagBarred 11 = .ok (.istore 4, 2) := by decide +kernel
theorem dX12_isFlagBarred_13 : decode cX12_isFlagBarred 13 = .ok (.iload 4, 2) := by decide +kernel
theorem dX12_isFlagBarred_15 : decode cX12_isFlagBarred 15 = .ok (.bipush (-9), 2) := by decide +kernel
theorem dX12_isFlagBarred_17 : decode cX12_isFlagBarred 17 = .ok (.if_icmp .ne 30, 3) := by decide +kernel
theorem dX12_isFlagBarred_20 : decode cX12_isFlagBarred 20 = .ok (.iload_n 3, 1) := by decide +kernel
theorem dX12_isFlagBarred_21 : decode cX12_isFlagBarred 21 = .ok (.iconst 1, 1) := by decide +kernel
theorem dX12_isFlagBarred_22 : decode cX12_isFlagBarred 22 = .ok (.if_icmp .ne 25, 3) := by decide +kernel
theorem dX12_isFlagBarred_25 : decode cX12_isFlagBarred 25 = .ok (.iload_n 2, 1) := by decide +kernel
theorem dX12_isFlagBarred_26 : decode cX12_isFlagBarred 26 = .ok (.ifCond .eq 8, 3) := by decide +kernel
theorem dX12_isFlagBarred_29 : decode cX12_isFlagBarred 29 = .ok (.iload_n 2, 1) := by decide +kernel
theorem dX12_isFlagBarred_30 : decode cX12_isFlagBarred 30 = .ok (.iconst 1, 1) := by decide +kernel
theorem dX12_isFlagBarred_31 : decode cX12_isFlagBarred 31 = .ok (.if_icmp .ne 16, 3) := by decide +kernel
theorem dX12_isFlagBarred_34 : decode cX12_isFlagBarred 34 = .ok (.aload_n 0, 1) := by decide +kernel
theorem dX12_isFlagBarred_35 : decode cX12_isFlagBarred 35 = .ok (.bipush 6, 2) := by decide +kernel
theorem dX12_isFlagBarred_37 : decode cX12_isFlagBarred 37 = .ok (.iload_n 1, 1) := by decide +kernel
theorem dX12_isFlagBarred_38 : decode cX12_isFlagBarred 38 = .ok (.iconst 1, 1) := by decide +kernel
theorem dX12_isFlagBarred_39 : decode cX12_isFlagBarred 39 = .ok (.iload_n 2, 1) := by decide +kernel
theorem dX12_isFlagBarred_40 : decode cX12_isFlagBarred 40 = .ok (.isub, 1) := by decide +kernel
theorem dX12_isFlagBarred_41 : decode cX12_isFlagBarred 41 = .ok (.iconst 1, 1) := by decide +kernel
theorem dX12_isFlagBarred_42 : decode cX12_isFlagBarred 42 = .ok (.invokevirtual 216, 3) := by decide +kernel
theorem dX12_isFlagBarred_45 : decode cX12_isFlagBarred 45 = .ok (.istore 4, 2) := by decide +kernel
theorem dX12_isFlagBarred_47 : decode cX12_isFlagBarred 47 = .ok (.iload 4, 2) := by decide +kernel
theorem dX12_isFlagBarred_49 : decode cX12_isFlagBarred 49 = .ok (.bipush (-9), 2) := by decide +kernel
theorem dX12_isFlagBarred_51 : decode cX12_isFlagBarred 51 = .ok (.if_icmp .ne 43, 3) := by decide +kernel
theorem dX12_isFlagBarred_54 : decode cX12_isFlagBarred 54 = .ok (.iload_n 2, 1) := by decide +kernel
theorem dX12_isFlagBarred_55 : decode cX12_isFlagBarred 55 = .ok (.iconst 4, 1) := by decide +kernel
theorem dX12_isFlagBarred_56 : decode cX12_isFlagBarred 56 = .ok (.if_icmp .ne 38, 3) := by decide +kernel
theorem dX12_isFlagBarred_59 : decode cX12_isFlagBarred 59 = .ok (.iload_n 3, 1) := by decide +kernel
theorem dX12_isFlagBarred_60 : decode cX12_isFlagBarred 60 = .ok (.ifCond .ne 34, 3) := by decide +kernel
theorem dX12_isFlagBarred_63 : decode cX12_isFlagBarred 63 = .ok (.aload_n 0, 1) := by decide +kernel
theorem dX12_isFlagBarred_64 : decode cX12_isFlagBarred 64 = .ok (.iload_n 1, 1) := by decide +kernel
theorem dX12_isFlagBarred_65 : decode cX12_isFlagBarred 65 = .ok (.invokevirtual 208, 3) := by decide +kernel
theorem dX12_isFlagBarred_68 : decode cX12_isFlagBarred 68 = .ok (.bipush (-9), 2) := by decide +kernel
theorem dX12_isFlagBarred_70 : decode cX12_isFlagBarred 70 = .ok (.if_icmp .eq 24, 3) := by decide +kernel
theorem dX12_isFlagBarred_73 : decode cX12_isFlagBarred 73 = .ok (.aload_n 0, 1) := by decide +kernel
theorem dX12_isFlagBarred_74 : decode cX12_isFlagBarred 74 = .ok (.getfield 25, 3) := by decide +kernel
theorem dX12_isFlagBarred_77 : decode cX12_isFlagBarred 77 = .ok (.aload_n 0, 1) := by decide +kernel
theorem dX12_isFlagBarred_78 : decode cX12_isFlagBarred 78 = .ok (.iload_n 1, 1) := by decide +kernel
theorem dX12_isFlagBarred_79 : decode cX12_isFlagBarred 79 = .ok (.invokevirtual 208, 3) := by decide +kernel
theorem dX12_isFlagBarred_82 : decode cX12_isFlagBarred 82 = .ok (.iaload, 1) := by decide +kernel
theorem dX12_isFlagBarred_83 : decode cX12_isFlagBarred 83 = .ok (.iconst 3, 1) := by decide +kernel
theorem dX12_isFlagBarred_84 : decode cX12_isFlagBarred 84 = .ok (.if_icmp .ne 10, 3) := by decide +kernel
theorem dX12_isFlagBarred_87 : decode cX12_isFlagBarred 87 = .ok (.aload_n 0, 1) := by decide +kernel
theorem dX12_isFlagBarred_88 : decode cX12_isFlagBarred 88 = .ok (.iload_n 1, 1) := by decide +kernel
theorem dX12_isFlagBarred_89 : decode cX12_isFlagBarred 89 = .ok (.invokevirtual 208, 3) := by decide +kernel
theorem dX12_isFlagBarred_92 : decode cX12_isFlagBarred 92 = .ok (.istore 4, 2) := by decide +kernel
theorem dX12_isFlagBarred_94 : decode cX12_isFlagBarred 94 = .ok (.iload 4, 2) := by decide +kernel
theorem dX12_isFlagBarred_96 : decode cX12_isFlagBarred 96 = .ok (.bipush (-9), 2) := by decide +kernel
theorem dX12_isFlagBarred_98 : decode cX12_isFlagBarred 98 = .ok (.if_icmp .eq 9, 3) := by decide +kernel
theorem dX12_isFlagBarred_101 : decode cX12_isFlagBarred 101 = .ok (.aload_n 0, 1) := by decide +kernel
theorem dX12_isFlagBarred_102 : decode cX12_isFlagBarred 102 = .ok (.iload 4, 2) := by decide +kernel
theorem dX12_isFlagBarred_104 : decode cX12_isFlagBarred 104 = .ok (.invokevirtual 212, 3) := by decide +kernel
theorem dX12_isFlagBarred_107 : decode cX12_isFlagBarred 107 = .ok (.iload 4, 2) := by decide +kernel
theorem dX12_isFlagBarred_109 : decode cX12_isFlagBarred 109 = .ok (.bipush (-9), 2) := by decide +kernel
theorem dX12_isFlagBarred_111 : decode cX12_isFlagBarred 111 = .ok (.if_icmp .eq 7, 3) := by decide +kernel
theorem dX12_isFlagBarred_114 : decode cX12_isFlagBarred 114 = .ok (.iconst 1, 1) := by decide +kernel
theorem dX12_isFlagBarred_115 : decode cX12_isFlagBarred 115 = .ok (.goto 4, 3) := by decide +kernel
theorem dX12_isFlagBarred_118 : decode cX12_isFlagBarred 118 = .ok (.iconst 0, 1) := by decide +kernel
theorem dX12_isFlagBarred_119 : decode cX12_isFlagBarred 119 = .ok (.ireturn, 1) := by decide +kernel
theorem dX12_isKeyBarred_0 : decode cX12_isKeyBarred 0 = .ok (.iconst 0, 1) := by decide +kernel
theorem dX12_isKeyBarred_1 : decode cX12_isKeyBarred 1 = .ok (.istore_n 2, 1) := by decide +kernel
theorem dX12_isKeyBarred_2 : decode cX12_isKeyBarred 2 = .ok (.iload_n 2, 1) := by decide +kernel
theorem dX12_isKeyBarred_3 : decode cX12_isKeyBarred 3 = .ok (.aload_n 0, 1) := by decide +kernel
theorem dX12_isKeyBarred_4 : decode cX12_isKeyBarred 4 = .ok (.getfield 202, 3) := by decide +kernel
theorem dX12_isKeyBarred_7 : decode cX12_isKeyBarred 7 = .ok (.if_icmp .ge 44, 3) := by decide +kernel
theorem dX12_isKeyBarred_10 : decode cX12_isKeyBarred 10 = .ok (.aload_n 0, 1) := by decide +kernel
theorem dX12_isKeyBarred_11 : decode cX12_isKeyBarred 11 = .ok (.getfield 37, 3) := by decide +kernel
theorem dX12_isKeyBarred_14 : decode cX12_isKeyBarred 14 = .ok (.iload_n 2, 1) := by decide +kernel
theorem dX12_isKeyBarred_15 : decode cX12_isKeyBarred 15 = .ok (.baload, 1) := by decide +kernel
theorem dX12_isKeyBarred_16 : decode cX12_isKeyBarred 16 = .ok (.ifCond .eq 29, 3) := by decide +kernel
theorem dX12_isKeyBarred_19 : decode cX12_isKeyBarred 19 = .ok (.aload_n 0, 1) := by decide +kernel
theorem dX12_isKeyBarred_20 : decode cX12_isKeyBarred 20 = .ok (.getfield 25, 3) := by decide +kernel
theorem dX12_isKeyBarred_23 : decode cX12_isKeyBarred 23 = .ok (.iload_n 2, 1) := by decide +kernel
theorem dX12_isKeyBarred_24 : decode cX12_isKeyBarred 24 = .ok (.iaload, 1) := by decide +kernel
theorem dX12_isKeyBarred_25 : decode cX12_isKeyBarred 25 = .ok (.bipush 7, 2) := by decide +kernel
theorem dX12_isKeyBarred_27 : decode cX12_isKeyBarred 27 = .ok (.if_icmp .ne 18, 3) := by decide +kernel
theorem dX12_isKeyBarred_30 : decode cX12_isKeyBarred 30 = .ok (.aload_n 0, 1) := by decide +kernel
theorem dX12_isKeyBarred_31 : decode cX12_isKeyBarred 31 = .ok (.getfield 31, 3) := by decide +kernel
theorem dX12_isKeyBarred_34 : decode cX12_isKeyBarred 34 = .ok (.iload_n 2, 1) := by decide +kernel
theorem dX12_isKeyBarred_35 : decode cX12_isKeyBarred 35 = .ok (.iaload, 1) := by decide +kernel
theorem dX12_isKeyBarred_36 : decode cX12_isKeyBarred 36 = .ok (.iload_n 1, 1) := by decide +kernel
theorem dX12_isKeyBarred_37 : decode cX12_isKeyBarred 37 = .ok (.if_icmp .ne 8, 3) := by decide +kernel
theorem dX12_isKeyBarred_40 : decode cX12_isKeyBarred 40 = .ok (.aload_n 0, 1) := by decide +kernel
theorem dX12_isKeyBarred_41 : decode cX12_isKeyBarred 41 = .ok (.iload_n 2, 1) := by decide +kernel
theorem dX12_isKeyBarred_42 : decode cX12_isKeyBarred 42 = .ok (.invokevirtual 212, 3) := by decide +kernel
theorem dX12_isKeyBarred_45 : decode cX12_isKeyBarred 45 = .ok (.iinc 2 1, 3) := by decide +kernel
theorem dX12_isKeyBarred_48 : decode cX12_isKeyBarred 48 = .ok (.goto (-46), 3) := by decide +kernel
theorem dX12_isKeyBarred_51 : decode cX12_isKeyBarred 51 = .ok (.aload_n 0, 1) := by decide +kernel
theorem dX12_isKeyBarred_52 : decode cX12_isKeyBarred 52 = .ok (.getfield 205, 3) := by decide +kernel
theorem dX12_isKeyBarred_55 : decode cX12_isKeyBarred 55 = .ok (.ifCond .le 7, 3) := by decide +kernel
theorem dX12_isKeyBarred_58 : decode cX12_isKeyBarred 58 = .ok (.iconst 1, 1) := by decide +kernel
theorem dX12_isKeyBarred_59 : decode cX12_isKeyBarred 59 = .ok (.goto 4, 3) := by decide +kernel
theorem dX12_isKeyBarred_62 : decode cX12_isKeyBarred 62 = .ok (.iconst 0, 1) := by decide +kernel
theorem dX12_isKeyBarred_63 : decode cX12_isKeyBarred 63 = .ok (.ireturn, 1) := by decide +kernel
theorem dX12_say_0 : decode cX12_say 0 = .ok (.aload_n 0, 1) := by decide +kernel
theorem dX12_say_1 : decode cX12_say 1 = .ok (.iconst 0, 1) := by decide +kernel
theorem dX12_say_2 : decode cX12_say 2 = .ok (.putfield 205, 3) := by decide +kernel
theorem dX12_say_5 : decode cX12_say 5 = .ok (.iload_n 1, 1) := by decide +kernel
theorem dX12_say_6 : decode cX12_say 6 = .ok (.i2l, 1) := by decide +kernel
theorem dX12_say_7 : decode cX12_say 7 = .ok (.lconst 0, 1) := by decide +kernel
theorem dX12_say_8 : decode cX12_say 8 = .ok (.ldc2_w 220, 3) := by decide +kernel
theorem dX12_say_11 : decode cX12_say 11 = .ok (.invokestatic 166, 3) := by decide +kernel
theorem dX12_say_14 : decode cX12_say 14 = .ok (.ifCond .eq 15, 3) := by decide +kernel
theorem dX12_say_17 : decode cX12_say 17 = .ok (.aload_n 0, 1) := by decide +kernel
theorem dX12_say_18 : decode cX12_say 18 = .ok (.iload_n 1, 1) := by decide +kernel
theorem dX12_say_19 : decode cX12_say 19 = .ok (.iload_n 2, 1) := by decide +kernel
theorem dX12_say_20 : decode cX12_say 20 = .ok (.iload_n 3, 1) := by decide +kernel
theorem dX12_say_21 : decode cX12_say 21 = .ok (.iload 4, 2) := by decide +kernel
theorem dX12_say_23 : decode cX12_say 23 = .ok (.invokevirtual 222, 3) := by decide +kernel
theorem dX12_say_26 : decode cX12_say 26 = .ok (.ifCond .ne 5, 3) := by decide +kernel
theorem dX12_say_29 : decode cX12_say 29 = .ok (.iconst (-1), 1) := by decide +kernel
theorem dX12_say_30 : decode cX12_say 30 = .ok (.ireturn, 1) := by decide +kernel
theorem dX12_say_31 : decode cX12_say 31 = .ok (.iload_n 1, 1) := by decide +kernel
theorem dX12_say_32 : decode cX12_say 32 = .ok (.iconst 5, 1) := by decide +kernel
theorem dX12_say_33 : decode cX12_say 33 = .ok (.if_icmp .lt 9, 3) := by decide +kernel
theorem dX12_say_36 : decode cX12_say 36 = .ok (.iload_n 1, 1) := by decide +kernel
theorem dX12_say_37 : decode cX12_say 37 = .ok (.bipush 7, 2) := by decide +kernel
theorem dX12_say_39 : decode cX12_say 39 = .ok (.if_icmp .ne 7, 3) := by decide +kernel
theorem dX12_say_42 : decode cX12_say 42 = .ok (.iconst 0, 1) := by decide +kernel
theorem dX12_say_43 : decode cX12_say 43 = .ok (.goto 5, 3) := by decide +kernel
theorem dX12_say_46 : decode cX12_say 46 = .ok (.iload 4, 2) := by decide +kernel
theorem dX12_say_48 : decode cX12_say 48 = .ok (.istore 5, 2) := by decide +kernel
theorem dX12_say_50 : decode cX12_say 50 = .ok (.aload_n 0, 1) := by decide +kernel
theorem dX12_say_51 : decode cX12_say 51 = .ok (.iload_n 1, 1) := by decide +kernel
theorem dX12_say_52 : decode cX12_say 52 = .ok (.iload_n 2, 1) := by decide +kernel
theorem dX12_say_53 : decode cX12_say 53 = .ok (.iload_n 3, 1) := by decide +kernel
theorem dX12_say_54 : decode cX12_say 54 = .ok (.invokevirtual 226, 3) := by decide +kernel
theorem dX12_say_57 : decode cX12_say 57 = .ok (.ifCond .eq 22, 3) := by decide +kernel
theorem dX12_say_60 : decode cX12_say 60 = .ok (.iload_n 1, 1) := by decide +kernel
theorem dX12_say_61 : decode cX12_say 61 = .ok (.bipush 6, 2) := by decide +kernel
theorem dX12_say_63 : decode cX12_say 63 = .ok (.if_icmp .eq 12, 3) := by decide +kernel
theorem dX12_say_66 : decode cX12_say 66 = .ok (.aload_n 0, 1) := by decide +kernel
theorem dX12_say_67 : decode cX12_say 67 = .ok (.iload_n 1, 1) := by decide +kernel
theorem dX12_say_68 : decode cX12_say 68 = .ok (.iload_n 3, 1) := by decide +kernel
theorem dX12_say_69 : decode cX12_say 69 = .ok (.invokevirtual 230, 3) := by decide +kernel
theorem dX12_say_72 : decode cX12_say 72 = .ok (.ifCond .eq 7, 3) := by decide +kernel
theorem dX12_say_75 : decode cX12_say 75 = .ok (.iconst 1, 1) := by decide +kernel
theorem dX12_say_76 : decode cX12_say 76 = .ok (.goto 4, 3) := by decide +kernel
theorem dX12_say_79 : decode cX12_say 79 = .ok (.iconst 0, 1) := by decide +kernel
theorem dX12_say_80 : decode cX12_say 80 = .ok (.istore 6, 2) := by decide +kernel
theorem dX12_say_82 : decode cX12_say 82 = .ok (.iload 6, 2) := by decide +kernel
theorem dX12_say_84 : decode cX12_say 84 = .ok (.ifCond .eq 15, 3) := by decide +kernel
theorem dX12_say_87 : decode cX12_say 87 = .ok (.aload_n 0, 1) := by decide +kernel
theorem dX12_say_88 : decode cX12_say 88 = .ok (.iload_n 1, 1) := by decide +kernel
theorem dX12_say_89 : decode cX12_say 89 = .ok (.iload_n 2, 1) := by decide +kernel
theorem dX12_say_90 : decode cX12_say 90 = .ok (.iload_n 3, 1) := by decide +kernel
theorem dX12_say_91 : decode cX12_say 91 = .ok (.iload 5, 2) := by decide +kernel
theorem dX12_say_93 : decode cX12_say 93 = .ok (.invokevirtual 216, 3) := by decide +kernel
theorem dX12_say_96 : decode cX12_say 96 = .ok (.goto 5, 3) := by decide +kernel
theorem dX12_say_99 : decode cX12_say 99 = .ok (.bipush (-9), 2) := by decide +kernel
theorem dX12_say_101 : decode cX12_say 101 = .ok (.istore 7, 2) := by decide +kernel
theorem dX12_say_103 : decode cX12_say 103 = .ok (.iload 7, 2) := by decide +kernel
theorem dX12_say_105 : decode cX12_say 105 = .ok (.bipush (-9), 2) := by decide +kernel
theorem dX12_say_107 : decode cX12_say 107 = .ok (.if_icmp .eq 6, 3) := by decide +kernel
theorem dX12_say_110 : decode cX12_say 110 = .ok (.iload 7, 2) := by decide +kernel
theorem dX12_say_112 : decode cX12_say 112 = .ok (.ireturn, 1) := by decide +kernel
theorem dX12_say_113 : decode cX12_say 113 = .ok (.aload_n 0, 1) := by decide +kernel
theorem dX12_say_114 : decode cX12_say 114 = .ok (.getfield 202, 3) := by decide +kernel
theorem dX12_say_117 : decode cX12_say 117 = .ok (.sipush 200, 3) := by decide +kernel
theorem dX12_say_120 : decode cX12_say 120 = .ok (.if_icmp .ne 6, 3) := by decide +kernel
theorem dX12_say_123 : decode cX12_say 123 = .ok (.bipush (-2), 2) := by decide +kernel
theorem dX12_say_125 : decode cX12_say 125 = .ok (.ireturn, 1) := by decide +kernel
theorem dX12_say_126 : decode cX12_say 126 = .ok (.iload 6, 2) := by decide +kernel
theorem dX12_say_128 : decode cX12_say 128 = .ok (.ifCond .ne 9, 3) := by decide +kernel
theorem dX12_say_131 : decode cX12_say 131 = .ok (.aload_n 0, 1) := by decide +kernel
theorem dX12_say_132 : decode cX12_say 132 = .ok (.iconst 3, 1) := by decide +kernel
theorem dX12_say_133 : decode cX12_say 133 = .ok (.invokevirtual 233, 3) := by decide +kernel
theorem dX12_say_136 : decode cX12_say 136 = .ok (.ireturn, 1) := by decide +kernel
theorem dX12_say_137 : decode cX12_say 137 = .ok (.iload_n 1, 1) := by decide +kernel
theorem dX12_say_138 : decode cX12_say 138 = .ok (.iconst 5, 1) := by decide +kernel
theorem dX12_say_139 : decode cX12_say 139 = .ok (.if_icmp .ge 13, 3) := by decide +kernel
theorem dX12_say_142 : decode cX12_say 142 = .ok (.aload_n 0, 1) := by decide +kernel
theorem dX12_say_143 : decode cX12_say 143 = .ok (.iload_n 1, 1) := by decide +kernel
theorem dX12_say_144 : decode cX12_say 144 = .ok (.iload_n 2, 1) := by decide +kernel
theorem dX12_say_145 : decode cX12_say 145 = .ok (.iload_n 3, 1) := by decide +kernel
theorem dX12_say_146 : decode cX12_say 146 = .ok (.invokevirtual 236, 3) := by decide +kernel
theorem dX12_say_149 : decode cX12_say 149 = .ok (.goto 41, 3) := by decide +kernel
theorem dX12_say_152 : decode cX12_say 152 = .ok (.iload_n 1, 1) := by decide +kernel
theorem dX12_say_153 : decode cX12_say 153 = .ok (.iconst 5, 1) := by decide +kernel
theorem dX12_say_154 : decode cX12_say 154 = .ok (.if_icmp .ne 14, 3) := by decide +kernel
theorem dX12_say_157 : decode cX12_say 157 = .ok (.aload_n 0, 1) := by decide +kernel
theorem dX12_say_158 : decode cX12_say 158 = .ok (.iload_n 2, 1) := by decide +kernel
theorem dX12_say_159 : decode cX12_say 159 = .ok (.iload_n 3, 1) := by decide +kernel
theorem dX12_say_160 : decode cX12_say 160 = .ok (.iload 4, 2) := by decide +kernel
theorem dX12_say_162 : decode cX12_say 162 = .ok (.invokevirtual 239, 3) := by decide +kernel
theorem dX12_say_165 : decode cX12_say 165 = .ok (.goto 25, 3) := by decide +kernel
theorem dX12_say_168 : decode cX12_say 168 = .ok (.iload_n 1, 1) := by decide +kernel
theorem dX12_say_169 : decode cX12_say 169 = .ok (.bipush 6, 2) := by decide +kernel
theorem dX12_say_171 : decode cX12_say 171 = .ok (.if_icmp .ne 14, 3) := by decide +kernel
theorem dX12_say_174 : decode cX12_say 174 = .ok (.aload_n 0, 1) := by decide +kernel
theorem dX12_say_175 : decode cX12_say 175 = .ok (.iload_n 2, 1) := by decide +kernel
theorem dX12_say_176 : decode cX12_say 176 = .ok (.iload_n 3, 1) := by decide +kernel
theorem dX12_say_177 : decode cX12_say 177 = .ok (.iload 4, 2) := by decide +kernel
theorem dX12_say_179 : decode cX12_say 179 = .ok (.invokevirtual 242, 3) := by decide +kernel
theorem dX12_say_182 : decode cX12_say 182 = .ok (.goto 8, 3) := by decide +kernel
theorem dX12_say_185 : decode cX12_say 185 = .ok (.aload_n 0, 1) := by decide +kernel
theorem dX12_say_186 : decode cX12_say 186 = .ok (.iload_n 3, 1) := by decide +kernel
theorem dX12_say_187 : decode cX12_say 187 = .ok (.invokevirtual 245, 3) := by decide +kernel
theorem dX12_say_190 : decode cX12_say 190 = .ok (.istore 8, 2) := by decide +kernel
theorem dX12_say_192 : decode cX12_say 192 = .ok (.iload 8, 2) := by decide +kernel
theorem dX12_say_194 : decode cX12_say 194 = .ok (.ifCond .eq 6, 3) := by decide +kernel
theorem dX12_say_197 : decode cX12_say 197 = .ok (.bipush (-4), 2) := by decide +kernel
theorem dX12_say_199 : decode cX12_say 199 = .ok (.ireturn, 1) := by decide +kernel
theorem dX12_say_200 : decode cX12_say 200 = .ok (.aload_n 0, 1) := by decide +kernel
theorem dX12_say_201 : decode cX12_say 201 = .ok (.getfield 25, 3) := by decide +kernel
theorem dX12_say_204 : decode cX12_say 204 = .ok (.aload_n 0, 1) := by decide +kernel
theorem dX12_say_205 : decode cX12_say 205 = .ok (.getfield 202, 3) := by decide +kernel
theorem dX12_say_208 : decode cX12_say 208 = .ok (.iload_n 1, 1) := by decide +kernel
theorem dX12_say_209 : decode cX12_say 209 = .ok (.iastore, 1) := by decide +kernel
theorem dX12_say_210 : decode cX12_say 210 = .ok (.aload_n 0, 1) := by decide +kernel
theorem dX12_say_211 : decode cX12_say 211 = .ok (.getfield 28, 3) := by decide +kernel
theorem dX12_say_214 : decode cX12_say 214 = .ok (.aload_n 0, 1) := by decide +kernel
theorem dX12_say_215 : decode cX12_say 215 = .ok (.getfield 202, 3) := by decide +kernel
theorem dX12_say_218 : decode cX12_say 218 = .ok (.iload_n 2, 1) := by decide +kernel
theorem dX12_say_219 : decode cX12_say 219 = .ok (.iastore, 1) := by decide +kernel
theorem dX12_say_220 : decode cX12_say 220 = .ok (.aload_n 0, 1) := by decide +kernel
theorem dX12_say_221 : decode cX12_say 221 = .ok (.getfield 31, 3) := by decide +kernel
theorem dX12_say_224 : decode cX12_say 224 = .ok (.aload_n 0, 1) := by decide +kernel
theorem dX12_say_225 : decode cX12_say 225 = .ok (.getfield 202, 3) := by decide +kernel
theorem dX12_say_228 : decode cX12_say 228 = .ok (.iload_n 3, 1) := by decide +kernel
theorem dX12_say_229 : decode cX12_say 229 = .ok (.iastore, 1) := by decide +kernel
theorem dX12_say_230 : decode cX12_say 230 = .ok (.aload_n 0, 1) := by decide +kernel
theorem dX12_say_231 : decode cX12_say 231 = .ok (.getfield 34, 3) := by decide +kernel
theorem dX12_say_234 : decode cX12_say 234 = .ok (.aload_n 0, 1) := by decide +kernel
theorem dX12_say_235 : decode cX12_say 235 = .ok (.getfield 202, 3) := by decide +kernel
theorem dX12_say_238 : decode cX12_say 238 = .ok (.iload 5, 2) := by decide +kernel
theorem dX12_say_240 : decode cX12_say 240 = .ok (.iastore, 1) := by decide +kernel
theorem dX12_say_241 : decode cX12_say 241 = .ok (.aload_n 0, 1) := by decide +kernel
theorem dX12_say_242 : decode cX12_say 242 = .ok (.getfield 37, 3) := by decide +kernel
theorem dX12_say_245 : decode cX12_say 245 = .ok (.aload_n 0, 1) := by decide +kernel
theorem dX12_say_246 : decode cX12_say 246 = .ok (.getfield 202, 3) := by decide +kernel
theorem dX12_say_249 : decode cX12_say 249 = .ok (.iconst 1, 1) := by decide +kernel
theorem dX12_say_250 : decode cX12_say 250 = .ok (.bastore, 1) := by decide +kernel
theorem dX12_say_251 : decode cX12_say 251 = .ok (.aload_n 0, 1) := by decide +kernel
theorem dX12_say_252 : decode cX12_say 252 = .ok (.dup, 1) := by decide +kernel
theorem dX12_say_253 : decode cX12_say 253 = .ok (.getfield 202, 3) := by decide +kernel
theorem dX12_say_256 : decode cX12_say 256 = .ok (.iconst 1, 1) := by decide +kernel
theorem dX12_say_257 : decode cX12_say 257 = .ok (.iadd, 1) := by decide +kernel
theorem dX12_say_258 : decode cX12_say 258 = .ok (.putfield 202, 3) := by decide +kernel
theorem dX12_say_261 : decode cX12_say 261 = .ok (.aload_n 0, 1) := by decide +kernel
theorem dX12_say_262 : decode cX12_say 262 = .ok (.invokevirtual 172, 3) := by decide +kernel
theorem dX12_say_265 : decode cX12_say 265 = .ok (.aload_n 0, 1) := by decide +kernel
theorem dX12_say_266 : decode cX12_say 266 = .ok (.getfield 202, 3) := by decide +kernel
theorem dX12_say_269 : decode cX12_say 269 = .ok (.iconst 1, 1) := by decide +kernel
theorem dX12_say_270 : decode cX12_say 270 = .ok (.isub, 1) := by decide +kernel
theorem dX12_say_271 : decode cX12_say 271 = .ok (.ireturn, 1) := by decide +kernel
theorem dX12_saidMany_0 : decode cX12_saidMany 0 = .ok (.iconst 0, 1) := by decide +kernel
theorem dX12_saidMany_1 : decode cX12_saidMany 1 = .ok (.istore_n 1, 1) := by decide +kernel
theorem dX12_saidMany_2 : decode cX12_saidMany 2 = .ok (.iconst 0, 1) := by decide +kernel
theorem dX12_saidMany_3 : decode cX12_saidMany 3 = .ok (.istore_n 2, 1) := by decide +kernel
theorem dX12_saidMany_4 : decode cX12_saidMany 4 = .ok (.iload_n 2, 1) := by decide +kernel
theorem dX12_saidMany_5 : decode cX12_saidMany 5 = .ok (.aload_n 0, 1) := by decide +kernel
theorem dX12_saidMany_6 : decode cX12_saidMany 6 = .ok (.getfield 202, 3) := by decide +kernel
theorem dX12_saidMany_9 : decode cX12_saidMany 9 = .ok (.if_icmp .ge 26, 3) := by decide +kernel
theorem dX12_saidMany_12 : decode cX12_saidMany 12 = .ok (.iload_n 1, 1) := by decide +kernel
theorem dX12_saidMany_13 : decode cX12_saidMany 13 = .ok (.aload_n 0, 1) := by decide +kernel
theorem dX12_saidMany_14 : decode cX12_saidMany 14 = .ok (.getfield 37, 3) := by decide +kernel
theorem dX12_saidMany_17 : decode cX12_saidMany 17 = .ok (.iload_n 2, 1) := by decide +kernel
theorem dX12_saidMany_18 : decode cX12_saidMany 18 = .ok (.baload, 1) := by decide +kernel
theorem dX12_saidMany_19 : decode cX12_saidMany 19 = .ok (.ifCond .eq 7, 3) := by decide +kernel
theorem dX12_saidMany_22 : decode cX12_saidMany 22 = .ok (.iconst 1, 1) := by decide +kernel
theorem dX12_saidMany_23 : decode cX12_saidMany 23 = .ok (.goto 4, 3) := by decide +kernel
theorem dX12_saidMany_26 : decode cX12_saidMany 26 = .ok (.iconst 0, 1) := by decide +kernel
theorem dX12_saidMany_27 : decode cX12_saidMany 27 = .ok (.iadd, 1) := by decide +kernel
theorem dX12_saidMany_28 : decode cX12_saidMany 28 = .ok (.istore_n 1, 1) := by decide +kernel
theorem dX12_saidMany_29 : decode cX12_saidMany 29 = .ok (.iinc 2 1, 3) := by decide +kernel
theorem dX12_saidMany_32 : decode cX12_saidMany 32 = .ok (.goto (-28), 3) := by decide +kernel
theorem dX12_saidMany_35 : decode cX12_saidMany 35 = .ok (.iload_n 1, 1) := by decide +kernel
theorem dX12_saidMany_36 : decode cX12_saidMany 36 = .ok (.ireturn, 1) := by decide +kernel
theorem dX12_unsay_0 : decode cX12_unsay 0 = .ok (.iload_n 1, 1) := by decide +kernel
theorem dX12_unsay_1 : decode cX12_unsay 1 = .ok (.i2l, 1) := by decide +kernel
theorem dX12_unsay_2 : decode cX12_unsay 2 = .ok (.lconst 0, 1) := by decide +kernel
theorem dX12_unsay_3 : decode cX12_unsay 3 = .ok (.aload_n 0, 1) := by decide +kernel
theorem dX12_unsay_4 : decode cX12_unsay 4 = .ok (.getfield 202, 3) := by decide +kernel
theorem dX12_unsay_7 : decode cX12_unsay 7 = .ok (.iconst 1, 1) := by decide +kernel
theorem dX12_unsay_8 : decode cX12_unsay 8 = .ok (.isub, 1) := by decide +kernel
theorem dX12_unsay_9 : decode cX12_unsay 9 = .ok (.i2l, 1) := by decide +kernel
theorem dX12_unsay_10 : decode cX12_unsay 10 = .ok (.invokestatic 166, 3) := by decide +kernel
theorem dX12_unsay_13 : decode cX12_unsay 13 = .ok (.ifCond .eq 12, 3) := by decide +kernel
theorem dX12_unsay_16 : decode cX12_unsay 16 = .ok (.aload_n 0, 1) := by decide +kernel
theorem dX12_unsay_17 : decode cX12_unsay 17 = .ok (.getfield 37, 3) := by decide +kernel
theorem dX12_unsay_20 : decode cX12_unsay 20 = .ok (.iload_n 1, 1) := by decide +kernel
theorem dX12_unsay_21 : decode cX12_unsay 21 = .ok (.baload, 1) := by decide +kernel
theorem dX12_unsay_22 : decode cX12_unsay 22 = .ok (.ifCond .ne 5, 3) := by decide +kernel
theorem dX12_unsay_25 : decode cX12_unsay 25 = .ok (.iconst (-1), 1) := by decide +kernel
theorem dX12_unsay_26 : decode cX12_unsay 26 = .ok (.ireturn, 1) := by decide +kernel
theorem dX12_unsay_27 : decode cX12_unsay 27 = .ok (.aload_n 0, 1) := by decide +kernel
theorem dX12_unsay_28 : decode cX12_unsay 28 = .ok (.getfield 37, 3) := by decide +kernel
theorem dX12_unsay_31 : decode cX12_unsay 31 = .ok (.iload_n 1, 1) := by decide +kernel
theorem dX12_unsay_32 : decode cX12_unsay 32 = .ok (.iconst 0, 1) := by decide +kernel
theorem dX12_unsay_33 : decode cX12_unsay 33 = .ok (.bastore, 1) := by decide +kernel
theorem dX12_unsay_34 : decode cX12_unsay 34 = .ok (.aload_n 0, 1) := by decide +kernel
theorem dX12_unsay_35 : decode cX12_unsay 35 = .ok (.invokevirtual 172, 3) := by decide +kernel
theorem dX12_unsay_38 : decode cX12_unsay 38 = .ok (.aload_n 0, 1) := by decide +kernel
theorem dX12_unsay_39 : decode cX12_unsay 39 = .ok (.invokevirtual 248, 3) := by decide +kernel
theorem dX12_unsay_42 : decode cX12_unsay 42 = .ok (.ireturn, 1) := by decide +kernel
theorem dX12_clash_0 : decode cX12_clash 0 = .ok (.iload_n 1, 1) := by decide +kernel
theorem dX12_clash_1 : decode cX12_clash 1 = .ok (.i2l, 1) := by decide +kernel
theorem dX12_clash_2 : decode cX12_clash 2 = .ok (.lconst 0, 1) := by decide +kernel
theorem dX12_clash_3 : decode cX12_clash 3 = .ok (.aload_n 0, 1) := by decide +kernel
theorem dX12_clash_4 : decode cX12_clash 4 = .ok (.getfield 205, 3) := by decide +kernel
theorem dX12_clash_7 : decode cX12_clash 7 = .ok (.iconst 1, 1) := by decide +kernel
theorem dX12_clash_8 : decode cX12_clash 8 = .ok (.isub, 1) := by decide +kernel
theorem dX12_clash_9 : decode cX12_clash 9 = .ok (.i2l, 1) := by decide +kernel
theorem dX12_clash_10 : decode cX12_clash 10 = .ok (.invokestatic 166, 3) := by decide +kernel
theorem dX12_clash_13 : decode cX12_clash 13 = .ok (.ifCond .eq 12, 3) := by decide +kernel
theorem dX12_clash_16 : decode cX12_clash 16 = .ok (.aload_n 0, 1) := by decide +kernel
theorem dX12_clash_17 : decode cX12_clash 17 = .ok (.getfield 41, 3) := by decide +kernel
theorem dX12_clash_20 : decode cX12_clash 20 = .ok (.iload_n 1, 1) := by decide +kernel
theorem dX12_clash_21 : decode cX12_clash 21 = .ok (.iaload, 1) := by decide +kernel
theorem dX12_clash_22 : decode cX12_clash 22 = .ok (.goto 5, 3) := by decide +kernel
theorem dX12_clash_25 : decode cX12_clash 25 = .ok (.bipush (-9), 2) := by decide +kernel
theorem dX12_clash_27 : decode cX12_clash 27 = .ok (.ireturn, 1) := by decide +kernel
theorem dX12_sentence_0 : decode cX12_sentence 0 = .ok (.iload_n 1, 1) := by decide +kernel
theorem dX12_sentence_1 : decode cX12_sentence 1 = .ok (.i2l, 1) := by decide +kernel
theorem dX12_sentence_2 : decode cX12_sentence 2 = .ok (.lconst 0, 1) := by decide +kernel
theorem dX12_sentence_3 : decode cX12_sentence 3 = .ok (.aload_n 0, 1) := by decide +kernel
theorem dX12_sentence_4 : decode cX12_sentence 4 = .ok (.getfield 202, 3) := by decide +kernel
theorem dX12_sentence_7 : decode cX12_sentence 7 = .ok (.iconst 1, 1) := by decide +kernel
theorem dX12_sentence_8 : decode cX12_sentence 8 = .ok (.isub, 1) := by decide +kernel
theorem dX12_sentence_9 : decode cX12_sentence 9 = .ok (.i2l, 1) := by decide +kernel
theorem dX12_sentence_10 : decode cX12_sentence 10 = .ok (.invokestatic 166, 3) := by decide +kernel
theorem dX12_sentence_13 : decode cX12_sentence 13 = .ok (.ifCond .eq 15, 3) := by decide +kernel
theorem dX12_sentence_16 : decode cX12_sentence 16 = .ok (.iload_n 2, 1) := by decide +kernel
theorem dX12_sentence_17 : decode cX12_sentence 17 = .ok (.i2l, 1) := by decide +kernel
theorem dX12_sentence_18 : decode cX12_sentence 18 = .ok (.lconst 0, 1) := by decide +kernel
theorem dX12_sentence_19 : decode cX12_sentence 19 = .ok (.ldc2_w 252, 3) := by decide +kernel
theorem dX12_sentence_22 : decode cX12_sentence 22 = .ok (.invokestatic 166, 3) := by decide +kernel
theorem dX12_sentence_25 : decode cX12_sentence 25 = .ok (.ifCond .ne 5, 3) := by decide +kernel
theorem dX12_sentence_28 : decode cX12_sentence 28 = .ok (.iconst (-1), 1) := by decide +kernel
theorem dX12_sentence_29 : decode cX12_sentence 29 = .ok (.ireturn, 1) := by decide +kernel
theorem dX12_sentence_30 : decode cX12_sentence 30 = .ok (.iload_n 2, 1) := by decide +kernel
theorem dX12_sentence_31 : decode cX12_sentence 31 = .ok (.ifCond .ne 12, 3) := by decide +kernel
theorem dX12_sentence_34 : decode cX12_sentence 34 = .ok (.aload_n 0, 1) := by decide +kernel
theorem dX12_sentence_35 : decode cX12_sentence 35 = .ok (.getfield 25, 3) := by decide +kernel
theorem dX12_sentence_38 : decode cX12_sentence 38 = .ok (.iload_n 1, 1) := by decide +kernel
theorem dX12_sentence_39 : decode cX12_sentence 39 = .ok (.iaload, 1) := by decide +kernel
theorem dX12_sentence_40 : decode cX12_sentence 40 = .ok (.goto 59, 3) := by decide +kernel
theorem dX12_sentence_43 : decode cX12_sentence 43 = .ok (.iload_n 2, 1) := by decide +kernel
theorem dX12_sentence_44 : decode cX12_sentence 44 = .ok (.iconst 1, 1) := by decide +kernel
theorem dX12_sentence_45 : decode cX12_sentence 45 = .ok (.if_icmp .ne 12, 3) := by decide +kernel
theorem dX12_sentence_48 : decode cX12_sentence 48 = .ok (.aload_n 0, 1) := by decide +kernel
theorem dX12_sentence_49 : decode cX12_sentence 49 = .ok (.getfield 28, 3) := by decide +kernel
theorem dX12_sentence_52 : decode cX12_sentence 52 = .ok (.iload_n 1, 1) := by decide +kernel
theorem dX12_sentence_53 : decode cX12_sentence 53 = .ok (.iaload, 1) := by decide +kernel
theorem dX12_sentence_54 : decode cX12_sentence 54 = .ok (.goto 45, 3) := by decide +kernel
theorem dX12_sentence_57 : decode cX12_sentence 57 = .ok (.iload_n 2, 1) := by decide +kernel
theorem dX12_sentence_58 : decode cX12_sentence 58 = .ok (.iconst 2, 1) := by decide +kernel
theorem dX12_sentence_59 : decode cX12_sentence 59 = .ok (.if_icmp .ne 12, 3) := by decide +kernel
theorem dX12_sentence_62 : decode cX12_sentence 62 = .ok (.aload_n 0, 1) := by decide +kernel
theorem dX12_sentence_63 : decode cX12_sentence 63 = .ok (.getfield 31, 3) := by decide +kernel
theorem dX12_sentence_66 : decode cX12_sentence 66 = .ok (.iload_n 1, 1) := by decide +kernel
theorem dX12_sentence_67 : decode cX12_sentence 67 = .ok (.iaload, 1) := by decide +kernel
theorem dX12_sentence_68 : decode cX12_sentence 68 = .ok (.goto 31, 3) := by decide +kernel
theorem dX12_sentence_71 : decode cX12_sentence 71 = .ok (.iload_n 2, 1) := by decide +kernel
theorem dX12_sentence_72 : decode cX12_sentence 72 = .ok (.iconst 3, 1) := by decide +kernel
theorem dX12_sentence_73 : decode cX12_sentence 73 = .ok (.if_icmp .ne 12, 3) := by decide +kernel
theorem dX12_sentence_76 : decode cX12_sentence 76 = .ok (.aload_n 0, 1) := by decide +kernel
theorem dX12_sentence_77 : decode cX12_sentence 77 = .ok (.getfield 34, 3) := by decide +kernel
theorem dX12_sentence_80 : decode cX12_sentence 80 = .ok (.iload_n 1, 1) := by decide +kernel
theorem dX12_sentence_81 : decode cX12_sentence 81 = .ok (.iaload, 1) := by decide +kernel
theorem dX12_sentence_82 : decode cX12_sentence 82 = .ok (.goto 17, 3) := by decide +kernel
theorem dX12_sentence_85 : decode cX12_sentence 85 = .ok (.aload_n 0, 1) := by decide +kernel
theorem dX12_sentence_86 : decode cX12_sentence 86 = .ok (.getfield 37, 3) := by decide +kernel
theorem dX12_sentence_89 : decode cX12_sentence 89 = .ok (.iload_n 1, 1) := by decide +kernel
theorem dX12_sentence_90 : decode cX12_sentence 90 = .ok (.baload, 1) := by decide +kernel
theorem dX12_sentence_91 : decode cX12_sentence 91 = .ok (.ifCond .eq 7, 3) := by decide +kernel
theorem dX12_sentence_94 : decode cX12_sentence 94 = .ok (.iconst 1, 1) := by decide +kernel
theorem dX12_sentence_95 : decode cX12_sentence 95 = .ok (.goto 4, 3) := by decide +kernel
theorem dX12_sentence_98 : decode cX12_sentence 98 = .ok (.iconst 0, 1) := by decide +kernel
theorem dX12_sentence_99 : decode cX12_sentence 99 = .ok (.ireturn, 1) := by decide +kernel
theorem dX12_place_0 : decode cX12_place 0 = .ok (.aload_n 0, 1) := by decide +kernel
theorem dX12_place_1 : decode cX12_place 1 = .ok (.iload_n 1, 1) := by decide +kernel
theorem dX12_place_2 : decode cX12_place 2 = .ok (.invokevirtual 180, 3) := by decide +kernel
theorem dX12_place_5 : decode cX12_place 5 = .ok (.ifCond .eq 15, 3) := by decide +kernel
theorem dX12_place_8 : decode cX12_place 8 = .ok (.iload_n 2, 1) := by decide +kernel
theorem dX12_place_9 : decode cX12_place 9 = .ok (.i2l, 1) := by decide +kernel
theorem dX12_place_10 : decode cX12_place 10 = .ok (.lconst 0, 1) := by decide +kernel
theorem dX12_place_11 : decode cX12_place 11 = .ok (.ldc2_w 254, 3) := by decide +kernel
theorem dX12_place_14 : decode cX12_place 14 = .ok (.invokestatic 166, 3) := by decide +kernel
theorem dX12_place_17 : decode cX12_place 17 = .ok (.ifCond .ne 5, 3) := by decide +kernel
theorem dX12_place_20 : decode cX12_place 20 = .ok (.iconst (-1), 1) := by decide +kernel
theorem dX12_place_21 : decode cX12_place 21 = .ok (.ireturn, 1) := by decide +kernel
theorem dX12_place_22 : decode cX12_place 22 = .ok (.aload_n 0, 1) := by decide +kernel
theorem dX12_place_23 : decode cX12_place 23 = .ok (.iload_n 1, 1) := by decide +kernel
theorem dX12_place_24 : decode cX12_place 24 = .ok (.invokevirtual 208, 3) := by decide +kernel
theorem dX12_place_27 : decode cX12_place 27 = .ok (.istore_n 3, 1) := by decide +kernel
theorem dX12_place_28 : decode cX12_place 28 = .ok (.iload_n 3, 1) := by decide +kernel
theorem dX12_place_29 : decode cX12_place 29 = .ok (.bipush (-9), 2) := by decide +kernel
theorem dX12_place_31 : decode cX12_place 31 = .ok (.if_icmp .ne 8, 3) := by decide +kernel
theorem dX12_place_34 : decode cX12_place 34 = .ok (.bipush (-9), 2) := by decide +kernel
theorem dX12_place_36 : decode cX12_place 36 = .ok (.goto 31, 3) := by decide +kernel
theorem dX12_place_39 : decode cX12_place 39 = .ok (.iload_n 2, 1) := by decide +kernel
theorem dX12_place_40 : decode cX12_place 40 = .ok (.ifCond .ne 12, 3) := by decide +kernel
theorem dX12_place_43 : decode cX12_place 43 = .ok (.aload_n 0, 1) := by decide +kernel
theorem dX12_place_44 : decode cX12_place 44 = .ok (.getfield 25, 3) := by decide +kernel
theorem dX12_place_47 : decode cX12_place 47 = .ok (.iload_n 3, 1) := by decide +kernel
theorem dX12_place_48 : decode cX12_place 48 = .ok (.iaload, 1) := by decide +kernel
theorem dX12_place_49 : decode cX12_place 49 = .ok (.goto 18, 3) := by decide +kernel
theorem dX12_place_52 : decode cX12_place 52 = .ok (.iload_n 2, 1) := by decide +kernel
theorem dX12_place_53 : decode cX12_place 53 = .ok (.iconst 1, 1) := by decide +kernel
theorem dX12_place_54 : decode cX12_place 54 = .ok (.if_icmp .ne 12, 3) := by decide +kernel
theorem dX12_place_57 : decode cX12_place 57 = .ok (.aload_n 0, 1) := by decide +kernel
theorem dX12_place_58 : decode cX12_place 58 = .ok (.getfield 31, 3) := by decide +kernel
theorem dX12_place_61 : decode cX12_place 61 = .ok (.iload_n 3, 1) := by decide +kernel
theorem dX12_place_62 : decode cX12_place 62 = .ok (.iaload, 1) := by decide +kernel
theorem dX12_place_63 : decode cX12_place 63 = .ok (.goto 4, 3) := by decide +kernel
theorem dX12_place_66 : decode cX12_place 66 = .ok (.iload_n 3, 1) := by decide +kernel
theorem dX12_place_67 : decode cX12_place 67 = .ok (.ireturn, 1) := by decide +kernel
theorem dX12_saidFlag_0 : decode cX12_saidFlag 0 = .ok (.aload_n 0, 1) := by decide +kernel
theorem dX12_saidFlag_1 : decode cX12_saidFlag 1 = .ok (.bipush 6, 2) := by decide +kernel
theorem dX12_saidFlag_3 : decode cX12_saidFlag 3 = .ok (.iload_n 1, 1) := by decide +kernel
theorem dX12_saidFlag_4 : decode cX12_saidFlag 4 = .ok (.iload_n 2, 1) := by decide +kernel
theorem dX12_saidFlag_5 : decode cX12_saidFlag 5 = .ok (.iconst 1, 1) := by decide +kernel
theorem dX12_saidFlag_6 : decode cX12_saidFlag 6 = .ok (.invokevirtual 216, 3) := by decide +kernel
theorem dX12_saidFlag_9 : decode cX12_saidFlag 9 = .ok (.bipush (-9), 2) := by decide +kernel
theorem dX12_saidFlag_11 : decode cX12_saidFlag 11 = .ok (.if_icmp .eq 5, 3) := by decide +kernel
theorem dX12_saidFlag_14 : decode cX12_saidFlag 14 = .ok (.iconst 1, 1) := by decide +kernel
theorem dX12_saidFlag_15 : decode cX12_saidFlag 15 = .ok (.ireturn, 1) := by decide +kernel
theorem dX12_saidFlag_16 : decode cX12_saidFlag 16 = .ok (.aload_n 0, 1) := by decide +kernel
theorem dX12_saidFlag_17 : decode cX12_saidFlag 17 = .ok (.bipush 6, 2) := by decide +kernel
theorem dX12_saidFlag_19 : decode cX12_saidFlag 19 = .ok (.iload_n 1, 1) := by decide +kernel
theorem dX12_saidFlag_20 : decode cX12_saidFlag 20 = .ok (.iload_n 2, 1) := by decide +kernel
theorem dX12_saidFlag_21 : decode cX12_saidFlag 21 = .ok (.iconst 0, 1) := by decide +kernel
theorem dX12_saidFlag_22 : decode cX12_saidFlag 22 = .ok (.invokevirtual 216, 3) := by decide +kernel
theorem dX12_saidFlag_25 : decode cX12_saidFlag 25 = .ok (.bipush (-9), 2) := by decide +kernel
theorem dX12_saidFlag_27 : decode cX12_saidFlag 27 = .ok (.if_icmp .eq 5, 3) := by decide +kernel
theorem dX12_saidFlag_30 : decode cX12_saidFlag 30 = .ok (.iconst 0, 1) := by decide +kernel
theorem dX12_saidFlag_31 : decode cX12_saidFlag 31 = .ok (.ireturn, 1) := by decide +kernel
theorem dX12_saidFlag_32 : decode cX12_saidFlag 32 = .ok (.aload_n 0, 1) := by decide +kernel
theorem dX12_saidFlag_33 : decode cX12_saidFlag 33 = .ok (.getfield 19, 3) := by decide +kernel
theorem dX12_saidFlag_36 : decode cX12_saidFlag 36 = .ok (.iload_n 1, 1) := by decide +kernel
theorem dX12_saidFlag_37 : decode cX12_saidFlag 37 = .ok (.iaload, 1) := by decide +kernel
theorem dX12_saidFlag_38 : decode cX12_saidFlag 38 = .ok (.istore_n 3, 1) := by decide +kernel
theorem dX12_saidFlag_39 : decode cX12_saidFlag 39 = .ok (.iload_n 3, 1) := by decide +kernel
theorem dX12_saidFlag_40 : decode cX12_saidFlag 40 = .ok (.bipush (-9), 2) := by decide +kernel
theorem dX12_saidFlag_42 : decode cX12_saidFlag 42 = .ok (.if_icmp .eq 41, 3) := by decide +kernel
theorem dX12_saidFlag_45 : decode cX12_saidFlag 45 = .ok (.aload_n 0, 1) := by decide +kernel
theorem dX12_saidFlag_46 : decode cX12_saidFlag 46 = .ok (.getfield 16, 3) := by decide +kernel
theorem dX12_saidFlag_49 : decode cX12_saidFlag 49 = .ok (.bipush 6, 2) := by decide +kernel
theorem dX12_saidFlag_51 : decode cX12_saidFlag 51 = .ok (.iload_n 3, 1) := by decide +kernel
theorem dX12_saidFlag_52 : decode cX12_saidFlag 52 = .ok (.imul, 1) := by decide +kernel
theorem dX12_saidFlag_53 : decode cX12_saidFlag 53 = .ok (.iload_n 2, 1) := by decide +kernel
theorem dX12_saidFlag_54 : decode cX12_saidFlag 54 = .ok (.iadd, 1) := by decide +kernel
theorem dX12_saidFlag_55 : decode cX12_saidFlag 55 = .ok (.iaload, 1) := by decide +kernel
theorem dX12_saidFlag_56 : decode cX12_saidFlag 56 = .ok (.bipush (-9), 2) := by decide +kernel
theorem dX12_saidFlag_58 : decode cX12_saidFlag 58 = .ok (.if_icmp .eq 15, 3) := by decide +kernel
theorem dX12_saidFlag_61 : decode cX12_saidFlag 61 = .ok (.aload_n 0, 1) := by decide +kernel
theorem dX12_saidFlag_62 : decode cX12_saidFlag 62 = .ok (.getfield 16, 3) := by decide +kernel
theorem dX12_saidFlag_65 : decode cX12_saidFlag 65 = .ok (.bipush 6, 2) := by decide +kernel
theorem dX12_saidFlag_67 : decode cX12_saidFlag 67 = .ok (.iload_n 3, 1) := by decide +kernel
theorem dX12_saidFlag_68 : decode cX12_saidFlag 68 = .ok (.imul, 1) := by decide +kernel
theorem dX12_saidFlag_69 : decode cX12_saidFlag 69 = .ok (.iload_n 2, 1) := by decide +kernel
theorem dX12_saidFlag_70 : decode cX12_saidFlag 70 = .ok (.iadd, 1) := by decide +kernel
theorem dX12_saidFlag_71 : decode cX12_saidFlag 71 = .ok (.iaload, 1) := by decide +kernel
theorem dX12_saidFlag_72 : decode cX12_saidFlag 72 = .ok (.ireturn, 1) := by decide +kernel
theorem dX12_saidFlag_73 : decode cX12_saidFlag 73 = .ok (.aload_n 0, 1) := by decide +kernel
theorem dX12_saidFlag_74 : decode cX12_saidFlag 74 = .ok (.getfield 13, 3) := by decide +kernel
theorem dX12_saidFlag_77 : decode cX12_saidFlag 77 = .ok (.iload_n 3, 1) := by decide +kernel
theorem dX12_saidFlag_78 : decode cX12_saidFlag 78 = .ok (.iaload, 1) := by decide +kernel
theorem dX12_saidFlag_79 : decode cX12_saidFlag 79 = .ok (.istore_n 3, 1) := by decide +kernel
theorem dX12_saidFlag_80 : decode cX12_saidFlag 80 = .ok (.goto (-41), 3) := by decide +kernel
theorem dX12_saidFlag_83 : decode cX12_saidFlag 83 = .ok (.iload_n 2, 1) := by decide +kernel
theorem dX12_saidFlag_84 : decode cX12_saidFlag 84 = .ok (.iconst 2, 1) := by decide +kernel
theorem dX12_saidFlag_85 : decode cX12_saidFlag 85 = .ok (.if_icmp .ne 16, 3) := by decide +kernel
theorem dX12_saidFlag_88 : decode cX12_saidFlag 88 = .ok (.aload_n 0, 1) := by decide +kernel
theorem dX12_saidFlag_89 : decode cX12_saidFlag 89 = .ok (.iload_n 1, 1) := by decide +kernel
theorem dX12_saidFlag_90 : decode cX12_saidFlag 90 = .ok (.iconst 0, 1) := by decide +kernel
theorem dX12_saidFlag_91 : decode cX12_saidFlag 91 = .ok (.invokevirtual 184, 3) := by decide +kernel
theorem dX12_saidFlag_94 : decode cX12_saidFlag 94 = .ok (.ifCond .eq 7, 3) := by decide +kernel
theorem dX12_saidFlag_97 : decode cX12_saidFlag 97 = .ok (.iconst 1, 1) := by decide +kernel
theorem dX12_saidFlag_98 : decode cX12_saidFlag 98 = .ok (.goto 4, 3) := by decide +kernel
theorem dX12_saidFlag_101 : decode cX12_saidFlag 101 = .ok (.iconst 0, 1) := by decide +kernel
theorem dX12_saidFlag_102 : decode cX12_saidFlag 102 = .ok (.ireturn, 1) := by decide +kernel
theorem dX12_flag_0 : decode cX12_flag 0 = .ok (.aload_n 0, 1) := by decide +kernel
theorem dX12_flag_1 : decode cX12_flag 1 = .ok (.iload_n 1, 1) := by decide +kernel
theorem dX12_flag_2 : decode cX12_flag 2 = .ok (.invokevirtual 180, 3) := by decide +kernel
theorem dX12_flag_5 : decode cX12_flag 5 = .ok (.ifCond .eq 15, 3) := by decide +kernel
theorem dX12_flag_8 : decode cX12_flag 8 = .ok (.iload_n 2, 1) := by decide +kernel
theorem dX12_flag_9 : decode cX12_flag 9 = .ok (.i2l, 1) := by decide +kernel
theorem dX12_flag_10 : decode cX12_flag 10 = .ok (.lconst 0, 1) := by decide +kernel
theorem dX12_flag_11 : decode cX12_flag 11 = .ok (.ldc2_w 170, 3) := by decide +kernel
theorem dX12_flag_14 : decode cX12_flag 14 = .ok (.invokestatic 166, 3) := by decide +kernel
theorem dX12_flag_17 : decode cX12_flag 17 = .ok (.ifCond .ne 5, 3) := by decide +kernel
theorem dX12_flag_20 : decode cX12_flag 20 = .ok (.iconst (-1), 1) := by decide +kernel
theorem dX12_flag_21 : decode cX12_flag 21 = .ok (.ireturn, 1) := by decide +kernel
theorem dX12_flag_22 : decode cX12_flag 22 = .ok (.aload_n 0, 1) := by decide +kernel
theorem dX12_flag_23 : decode cX12_flag 23 = .ok (.iload_n 1, 1) := by decide +kernel
theorem dX12_flag_24 : decode cX12_flag 24 = .ok (.iload_n 2, 1) := by decide +kernel
theorem dX12_flag_25 : decode cX12_flag 25 = .ok (.invokevirtual 199, 3) := by decide +kernel
theorem dX12_flag_28 : decode cX12_flag 28 = .ok (.ifCond .eq 12, 3) := by decide +kernel
theorem dX12_flag_31 : decode cX12_flag 31 = .ok (.aload_n 0, 1) := by decide +kernel
theorem dX12_flag_32 : decode cX12_flag 32 = .ok (.iload_n 1, 1) := by decide +kernel
theorem dX12_flag_33 : decode cX12_flag 33 = .ok (.iload_n 2, 1) := by decide +kernel
theorem dX12_flag_34 : decode cX12_flag 34 = .ok (.invokevirtual 256, 3) := by decide +kernel
theorem dX12_flag_37 : decode cX12_flag 37 = .ok (.goto 8, 3) := by decide +kernel
theorem dX12_flag_40 : decode cX12_flag 40 = .ok (.aload_n 0, 1) := by decide +kernel
theorem dX12_flag_41 : decode cX12_flag 41 = .ok (.iconst 3, 1) := by decide +kernel
theorem dX12_flag_42 : decode cX12_flag 42 = .ok (.invokevirtual 233, 3) := by decide +kernel
theorem dX12_flag_45 : decode cX12_flag 45 = .ok (.ireturn, 1) := by decide +kernel
theorem dX12_keyOf_0 : decode cX12_keyOf 0 = .ok (.iconst 0, 1) := by decide +kernel
theorem dX12_keyOf_1 : decode cX12_keyOf 1 = .ok (.istore_n 2, 1) := by decide +kernel
theorem dX12_keyOf_2 : decode cX12_keyOf 2 = .ok (.iload_n 2, 1) := by decide +kernel
theorem dX12_keyOf_3 : decode cX12_keyOf 3 = .ok (.aload_n 0, 1) := by decide +kernel
theorem dX12_keyOf_4 : decode cX12_keyOf 4 = .ok (.getfield 202, 3) := by decide +kernel
theorem dX12_keyOf_7 : decode cX12_keyOf 7 = .ok (.if_icmp .ge 46, 3) := by decide +kernel
theorem dX12_keyOf_10 : decode cX12_keyOf 10 = .ok (.aload_n 0, 1) := by decide +kernel
theorem dX12_keyOf_11 : decode cX12_keyOf 11 = .ok (.getfield 37, 3) := by decide +kernel
theorem dX12_keyOf_14 : decode cX12_keyOf 14 = .ok (.iload_n 2, 1) := by decide +kernel
theorem dX12_keyOf_15 : decode cX12_keyOf 15 = .ok (.baload, 1) := by decide +kernel
theorem dX12_keyOf_16 : decode cX12_keyOf 16 = .ok (.ifCond .eq 31, 3) := by decide +kernel
theorem dX12_keyOf_19 : decode cX12_keyOf 19 = .ok (.aload_n 0, 1) := by decide +kernel
theorem dX12_keyOf_20 : decode cX12_keyOf 20 = .ok (.getfield 25, 3) := by decide +kernel
theorem dX12_keyOf_23 : decode cX12_keyOf 23 = .ok (.iload_n 2, 1) := by decide +kernel
theorem dX12_keyOf_24 : decode cX12_keyOf 24 = .ok (.iaload, 1) := by decide +kernel
theorem dX12_keyOf_25 : decode cX12_keyOf 25 = .ok (.bipush 7, 2) := by decide +kernel
theorem dX12_keyOf_27 : decode cX12_keyOf 27 = .ok (.if_icmp .ne 20, 3) := by decide +kernel
theorem dX12_keyOf_30 : decode cX12_keyOf 30 = .ok (.aload_n 0, 1) := by decide +kernel
theorem dX12_keyOf_31 : decode cX12_keyOf 31 = .ok (.getfield 31, 3) := by decide +kernel
theorem dX12_keyOf_34 : decode cX12_keyOf 34 = .ok (.iload_n 2, 1) := by decide +kernel
theorem dX12_keyOf_35 : decode cX12_keyOf 35 = .ok (.iaload, 1) := by decide +kernel
theorem dX12_keyOf_36 : decode cX12_keyOf 36 = .ok (.iload_n 1, 1) := by decide +kernel
theorem dX12_keyOf_37 : decode cX12_keyOf 37 = .ok (.if_icmp .ne 10, 3) := by decide +kernel
theorem dX12_keyOf_40 : decode cX12_keyOf 40 = .ok (.aload_n 0, 1) := by decide +kernel
