theorem dX12_saidSo_44 : decode cX12_saidSo 44 = .ok (.aload_n 0, 1) := by decide +kernel
theorem dX12_saidSo_45 : decode cX12_saidSo 45 = .ok (.getfield 31, 3) := by decide +kernel
theorem dX12_saidSo_48 : decode cX12_saidSo 48 = .ok (.iload 5, 2) := by decide +kernel
theorem dX12_saidSo_50 : decode cX12_saidSo 50 = .ok (.iaload, 1) := by decide +kernel
theorem dX12_saidSo_51 : decode cX12_saidSo 51 = .ok (.iload_n 3, 1) := by decide +kernel
theorem dX12_saidSo_52 : decode cX12_saidSo 52 = .ok (.if_icmp .ne 18, 3) := by decide +kernel
theorem dX12_saidSo_55 : decode cX12_saidSo 55 = .ok (.aload_n 0, 1) := by decide +kernel
theorem dX12_saidSo_56 : decode cX12_saidSo 56 = .ok (.getfield 34, 3) := by decide +kernel
theorem dX12_saidSo_59 : decode cX12_saidSo 59 = .ok (.iload 5, 2) := by decide +kernel
theorem dX12_saidSo_61 : decode cX12_saidSo 61 = .ok (.iaload, 1) := by decide +kernel
theorem dX12_saidSo_62 : decode cX12_saidSo 62 = .ok (.iload 4, 2) := by decide +kernel
theorem dX12_saidSo_64 : decode cX12_saidSo 64 = .ok (.if_icmp .ne 6, 3) := by decide +kernel
theorem dX12_saidSo_67 : decode cX12_saidSo 67 = .ok (.iload 5, 2) := by decide +kernel
theorem dX12_saidSo_69 : decode cX12_saidSo 69 = .ok (.ireturn, 1) := by decide +kernel
theorem dX12_saidSo_70 : decode cX12_saidSo 70 = .ok (.iinc 5 1, 3) := by decide +kernel
theorem dX12_saidSo_73 : decode cX12_saidSo 73 = .ok (.goto (-70), 3) := by decide +kernel
theorem dX12_saidSo_76 : decode cX12_saidSo 76 = .ok (.bipush (-9), 2) := by decide +kernel
theorem dX12_saidSo_78 : decode cX12_saidSo 78 = .ok (.ireturn, 1) := by decide +kernel
theorem dX12_clashes_0 : decode cX12_clashes 0 = .ok (.aload_n 0, 1) := by decide +kernel
theorem dX12_clashes_1 : decode cX12_clashes 1 = .ok (.getfield 41, 3) := by decide +kernel
theorem dX12_clashes_4 : decode cX12_clashes 4 = .ok (.aload_n 0, 1) := by decide +kernel
theorem dX12_clashes_5 : decode cX12_clashes 5 = .ok (.getfield 205, 3) := by decide +kernel
theorem dX12_clashes_8 : decode cX12_clashes 8 = .ok (.iload_n 1, 1) := by decide +kernel
theorem dX12_clashes_9 : decode cX12_clashes 9 = .ok (.iastore, 1) := by decide +kernel
theorem dX12_clashes_10 : decode cX12_clashes 10 = .ok (.aload_n 0, 1) := by decide +kernel
theorem dX12_clashes_11 : decode cX12_clashes 11 = .ok (.dup, 1) := by decide +kernel
theorem dX12_clashes_12 : decode cX12_clashes 12 = .ok (.getfield 205, 3) := by decide +kernel
theorem dX12_clashes_15 : decode cX12_clashes 15 = .ok (.iconst 1, 1) := by decide +kernel
theorem dX12_clashes_16 : decode cX12_clashes 16 = .ok (.iadd, 1) := by decide +kernel
theorem dX12_clashes_17 : decode cX12_clashes 17 = .ok (.putfield 205, 3) := by decide +kernel
theorem dX12_clashes_20 : decode cX12_clashes 20 = .ok (.return_, 1) := by decide +kernel
theorem dX12_placing_0 : decode cX12_placing 0 = .ok (.iconst 0, 1) := by decide +kernel
theorem dX12_placing_1 : decode cX12_placing 1 = .ok (.istore_n 2, 1) := by decide +kernel
theorem dX12_placing_2 : decode cX12_placing 2 = .ok (.iload_n 2, 1) := by decide +kernel
theorem dX12_placing_3 : decode cX12_placing 3 = .ok (.aload_n 0, 1) := by decide +kernel
theorem dX12_placing_4 : decode cX12_placing 4 = .ok (.getfield 202, 3) := by decide +kernel
theorem dX12_placing_7 : decode cX12_placing 7 = .ok (.if_icmp .ge 40, 3) := by decide +kernel
theorem dX12_placing_10 : decode cX12_placing 10 = .ok (.aload_n 0, 1) := by decide +kernel
theorem dX12_placing_11 : decode cX12_placing 11 = .ok (.getfield 37, 3) := by decide +kernel
theorem dX12_placing_14 : decode cX12_placing 14 = .ok (.iload_n 2, 1) := by decide +kernel
theorem dX12_placing_15 : decode cX12_placing 15 = .ok (.baload, 1) := by decide +kernel
theorem dX12_placing_16 : decode cX12_placing 16 = .ok (.ifCond .eq 25, 3) := by decide +kernel
theorem dX12_placing_19 : decode cX12_placing 19 = .ok (.aload_n 0, 1) := by decide +kernel
theorem dX12_placing_20 : decode cX12_placing 20 = .ok (.getfield 25, 3) := by decide +kernel
theorem dX12_placing_23 : decode cX12_placing 23 = .ok (.iload_n 2, 1) := by decide +kernel
theorem dX12_placing_24 : decode cX12_placing 24 = .ok (.iaload, 1) := by decide +kernel
theorem dX12_placing_25 : decode cX12_placing 25 = .ok (.iconst 5, 1) := by decide +kernel
theorem dX12_placing_26 : decode cX12_placing 26 = .ok (.if_icmp .ge 15, 3) := by decide +kernel
theorem dX12_placing_29 : decode cX12_placing 29 = .ok (.aload_n 0, 1) := by decide +kernel
theorem dX12_placing_30 : decode cX12_placing 30 = .ok (.getfield 28, 3) := by decide +kernel
theorem dX12_placing_33 : decode cX12_placing 33 = .ok (.iload_n 2, 1) := by decide +kernel
theorem dX12_placing_34 : decode cX12_placing 34 = .ok (.iaload, 1) := by decide +kernel
theorem dX12_placing_35 : decode cX12_placing 35 = .ok (.iload_n 1, 1) := by decide +kernel
theorem dX12_placing_36 : decode cX12_placing 36 = .ok (.if_icmp .ne 5, 3) := by decide +kernel
theorem dX12_placing_39 : decode cX12_placing 39 = .ok (.iload_n 2, 1) := by decide +kernel
theorem dX12_placing_40 : decode cX12_placing 40 = .ok (.ireturn, 1) := by decide +kernel
theorem dX12_placing_41 : decode cX12_placing 41 = .ok (.iinc 2 1, 3) := by decide +kernel
theorem dX12_placing_44 : decode cX12_placing 44 = .ok (.goto (-42), 3) := by decide +kernel
theorem dX12_placing_47 : decode cX12_placing 47 = .ok (.bipush (-9), 2) := by decide +kernel
theorem dX12_placing_49 : decode cX12_placing 49 = .ok (.ireturn, 1) := by decide +kernel
theorem dX12_isExitBarred_0 : decode cX12_isExitBarred 0 = .ok (.iconst 0, 1) := by decide +kernel
theorem dX12_isExitBarred_1 : decode cX12_isExitBarred 1 = .ok (.istore 4, 2) := by decide +kernel
theorem dX12_isExitBarred_3 : decode cX12_isExitBarred 3 = .ok (.iload 4, 2) := by decide +kernel
theorem dX12_isExitBarred_5 : decode cX12_isExitBarred 5 = .ok (.aload_n 0, 1) := by decide +kernel
theorem dX12_isExitBarred_6 : decode cX12_isExitBarred 6 = .ok (.getfield 202, 3) := by decide +kernel
theorem dX12_isExitBarred_9 : decode cX12_isExitBarred 9 = .ok (.if_icmp .ge 60, 3) := by decide +kernel
theorem dX12_isExitBarred_12 : decode cX12_isExitBarred 12 = .ok (.aload_n 0, 1) := by decide +kernel
theorem dX12_isExitBarred_13 : decode cX12_isExitBarred 13 = .ok (.getfield 37, 3) := by decide +kernel
theorem dX12_isExitBarred_16 : decode cX12_isExitBarred 16 = .ok (.iload 4, 2) := by decide +kernel
theorem dX12_isExitBarred_18 : decode cX12_isExitBarred 18 = .ok (.baload, 1) := by decide +kernel
theorem dX12_isExitBarred_19 : decode cX12_isExitBarred 19 = .ok (.ifCond .eq 44, 3) := by decide +kernel
theorem dX12_isExitBarred_22 : decode cX12_isExitBarred 22 = .ok (.aload_n 0, 1) := by decide +kernel
theorem dX12_isExitBarred_23 : decode cX12_isExitBarred 23 = .ok (.getfield 25, 3) := by decide +kernel
theorem dX12_isExitBarred_26 : decode cX12_isExitBarred 26 = .ok (.iload 4, 2) := by decide +kernel
theorem dX12_isExitBarred_28 : decode cX12_isExitBarred 28 = .ok (.iaload, 1) := by decide +kernel
theorem dX12_isExitBarred_29 : decode cX12_isExitBarred 29 = .ok (.iconst 5, 1) := by decide +kernel
theorem dX12_isExitBarred_30 : decode cX12_isExitBarred 30 = .ok (.if_icmp .ne 33, 3) := by decide +kernel
theorem dX12_isExitBarred_33 : decode cX12_isExitBarred 33 = .ok (.aload_n 0, 1) := by decide +kernel
theorem dX12_isExitBarred_34 : decode cX12_isExitBarred 34 = .ok (.getfield 28, 3) := by decide +kernel
theorem dX12_isExitBarred_37 : decode cX12_isExitBarred 37 = .ok (.iload 4, 2) := by decide +kernel
theorem dX12_isExitBarred_39 : decode cX12_isExitBarred 39 = .ok (.iaload, 1) := by decide +kernel
theorem dX12_isExitBarred_40 : decode cX12_isExitBarred 40 = .ok (.iload_n 1, 1) := by decide +kernel
theorem dX12_isExitBarred_41 : decode cX12_isExitBarred 41 = .ok (.if_icmp .ne 22, 3) := by decide +kernel
theorem dX12_isExitBarred_44 : decode cX12_isExitBarred 44 = .ok (.aload_n 0, 1) := by decide +kernel
theorem dX12_isExitBarred_45 : decode cX12_isExitBarred 45 = .ok (.getfield 34, 3) := by decide +kernel
theorem dX12_isExitBarred_48 : decode cX12_isExitBarred 48 = .ok (.iload 4, 2) := by decide +kernel
theorem dX12_isExitBarred_50 : decode cX12_isExitBarred 50 = .ok (.iaload, 1) := by decide +kernel
theorem dX12_isExitBarred_51 : decode cX12_isExitBarred 51 = .ok (.iload_n 3, 1) := by decide +kernel
theorem dX12_isExitBarred_52 : decode cX12_isExitBarred 52 = .ok (.if_icmp .ne 11, 3) := by decide +kernel
theorem dX12_isExitBarred_55 : decode cX12_isExitBarred 55 = .ok (.aload_n 0, 1) := by decide +kernel
theorem dX12_isExitBarred_56 : decode cX12_isExitBarred 56 = .ok (.iload 4, 2) := by decide +kernel
theorem dX12_isExitBarred_58 : decode cX12_isExitBarred 58 = .ok (.invokevirtual 212, 3) := by decide +kernel
theorem dX12_isExitBarred_61 : decode cX12_isExitBarred 61 = .ok (.iconst 1, 1) := by decide +kernel
theorem dX12_isExitBarred_62 : decode cX12_isExitBarred 62 = .ok (.ireturn, 1) := by decide +kernel
theorem dX12_isExitBarred_63 : decode cX12_isExitBarred 63 = .ok (.iinc 4 1, 3) := by decide +kernel
theorem dX12_isExitBarred_66 : decode cX12_isExitBarred 66 = .ok (.goto (-63), 3) := by decide +kernel
theorem dX12_isExitBarred_69 : decode cX12_isExitBarred 69 = .ok (.aload_n 0, 1) := by decide +kernel
theorem dX12_isExitBarred_70 : decode cX12_isExitBarred 70 = .ok (.iload_n 2, 1) := by decide +kernel
theorem dX12_isExitBarred_71 : decode cX12_isExitBarred 71 = .ok (.iconst 2, 1) := by decide +kernel
theorem dX12_isExitBarred_72 : decode cX12_isExitBarred 72 = .ok (.invokevirtual 184, 3) := by decide +kernel
theorem dX12_isExitBarred_75 : decode cX12_isExitBarred 75 = .ok (.ifCond .ne 5, 3) := by decide +kernel
theorem dX12_isExitBarred_78 : decode cX12_isExitBarred 78 = .ok (.iconst 0, 1) := by decide +kernel
theorem dX12_isExitBarred_79 : decode cX12_isExitBarred 79 = .ok (.ireturn, 1) := by decide +kernel
theorem dX12_isExitBarred_80 : decode cX12_isExitBarred 80 = .ok (.iconst 0, 1) := by decide +kernel
theorem dX12_isExitBarred_81 : decode cX12_isExitBarred 81 = .ok (.istore 4, 2) := by decide +kernel
theorem dX12_isExitBarred_83 : decode cX12_isExitBarred 83 = .ok (.iload 4, 2) := by decide +kernel
theorem dX12_isExitBarred_85 : decode cX12_isExitBarred 85 = .ok (.aload_n 0, 1) := by decide +kernel
theorem dX12_isExitBarred_86 : decode cX12_isExitBarred 86 = .ok (.getfield 202, 3) := by decide +kernel
theorem dX12_isExitBarred_89 : decode cX12_isExitBarred 89 = .ok (.if_icmp .ge 60, 3) := by decide +kernel
theorem dX12_isExitBarred_92 : decode cX12_isExitBarred 92 = .ok (.aload_n 0, 1) := by decide +kernel
theorem dX12_isExitBarred_93 : decode cX12_isExitBarred 93 = .ok (.getfield 37, 3) := by decide +kernel
theorem dX12_isExitBarred_96 : decode cX12_isExitBarred 96 = .ok (.iload 4, 2) := by decide +kernel
theorem dX12_isExitBarred_98 : decode cX12_isExitBarred 98 = .ok (.baload, 1) := by decide +kernel
theorem dX12_isExitBarred_99 : decode cX12_isExitBarred 99 = .ok (.ifCond .eq 44, 3) := by decide +kernel
theorem dX12_isExitBarred_102 : decode cX12_isExitBarred 102 = .ok (.aload_n 0, 1) := by decide +kernel
theorem dX12_isExitBarred_103 : decode cX12_isExitBarred 103 = .ok (.getfield 25, 3) := by decide +kernel
theorem dX12_isExitBarred_106 : decode cX12_isExitBarred 106 = .ok (.iload 4, 2) := by decide +kernel
theorem dX12_isExitBarred_108 : decode cX12_isExitBarred 108 = .ok (.iaload, 1) := by decide +kernel
theorem dX12_isExitBarred_109 : decode cX12_isExitBarred 109 = .ok (.iconst 5, 1) := by decide +kernel
theorem dX12_isExitBarred_110 : decode cX12_isExitBarred 110 = .ok (.if_icmp .ne 33, 3) := by decide +kernel
theorem dX12_isExitBarred_113 : decode cX12_isExitBarred 113 = .ok (.aload_n 0, 1) := by decide +kernel
theorem dX12_isExitBarred_114 : decode cX12_isExitBarred 114 = .ok (.getfield 28, 3) := by decide +kernel
theorem dX12_isExitBarred_117 : decode cX12_isExitBarred 117 = .ok (.iload 4, 2) := by decide +kernel
theorem dX12_isExitBarred_119 : decode cX12_isExitBarred 119 = .ok (.iaload, 1) := by decide +kernel
theorem dX12_isExitBarred_120 : decode cX12_isExitBarred 120 = .ok (.iload_n 1, 1) := by decide +kernel
theorem dX12_isExitBarred_121 : decode cX12_isExitBarred 121 = .ok (.if_icmp .ne 22, 3) := by decide +kernel
theorem dX12_isExitBarred_124 : decode cX12_isExitBarred 124 = .ok (.aload_n 0, 1) := by decide +kernel
theorem dX12_isExitBarred_125 : decode cX12_isExitBarred 125 = .ok (.getfield 31, 3) := by decide +kernel
theorem dX12_isExitBarred_128 : decode cX12_isExitBarred 128 = .ok (.iload 4, 2) := by decide +kernel
theorem dX12_isExitBarred_130 : decode cX12_isExitBarred 130 = .ok (.iaload, 1) := by decide +kernel
theorem dX12_isExitBarred_131 : decode cX12_isExitBarred 131 = .ok (.iload_n 2, 1) := by decide +kernel
theorem dX12_isExitBarred_132 : decode cX12_isExitBarred 132 = .ok (.if_icmp .ne 11, 3) := by decide +kernel
theorem dX12_isExitBarred_135 : decode cX12_isExitBarred 135 = .ok (.aload_n 0, 1) := by decide +kernel
theorem dX12_isExitBarred_136 : decode cX12_isExitBarred 136 = .ok (.iload 4, 2) := by decide +kernel
theorem dX12_isExitBarred_138 : decode cX12_isExitBarred 138 = .ok (.invokevirtual 212, 3) := by decide +kernel
theorem dX12_isExitBarred_141 : decode cX12_isExitBarred 141 = .ok (.iconst 1, 1) := by decide +kernel
theorem dX12_isExitBarred_142 : decode cX12_isExitBarred 142 = .ok (.ireturn, 1) := by decide +kernel
theorem dX12_isExitBarred_143 : decode cX12_isExitBarred 143 = .ok (.iinc 4 1, 3) := by decide +kernel
theorem dX12_isExitBarred_146 : decode cX12_isExitBarred 146 = .ok (.goto (-63), 3) := by decide +kernel
theorem dX12_isExitBarred_149 : decode cX12_isExitBarred 149 = .ok (.iconst 0, 1) := by decide +kernel
theorem dX12_isExitBarred_150 : decode cX12_isExitBarred 150 = .ok (.istore 4, 2) := by decide +kernel
theorem dX12_isExitBarred_152 : decode cX12_isExitBarred 152 = .ok (.iload 4, 2) := by decide +kernel
theorem dX12_isExitBarred_154 : decode cX12_isExitBarred 154 = .ok (.aload_n 0, 1) := by decide +kernel
theorem dX12_isExitBarred_155 : decode cX12_isExitBarred 155 = .ok (.getfield 202, 3) := by decide +kernel
theorem dX12_isExitBarred_158 : decode cX12_isExitBarred 158 = .ok (.if_icmp .ge 47, 3) := by decide +kernel
theorem dX12_isExitBarred_161 : decode cX12_isExitBarred 161 = .ok (.aload_n 0, 1) := by decide +kernel
theorem dX12_isExitBarred_162 : decode cX12_isExitBarred 162 = .ok (.getfield 37, 3) := by decide +kernel
theorem dX12_isExitBarred_165 : decode cX12_isExitBarred 165 = .ok (.iload 4, 2) := by decide +kernel
theorem dX12_isExitBarred_167 : decode cX12_isExitBarred 167 = .ok (.baload, 1) := by decide +kernel
theorem dX12_isExitBarred_168 : decode cX12_isExitBarred 168 = .ok (.ifCond .eq 31, 3) := by decide +kernel
theorem dX12_isExitBarred_171 : decode cX12_isExitBarred 171 = .ok (.aload_n 0, 1) := by decide +kernel
theorem dX12_isExitBarred_172 : decode cX12_isExitBarred 172 = .ok (.getfield 25, 3) := by decide +kernel
theorem dX12_isExitBarred_175 : decode cX12_isExitBarred 175 = .ok (.iload 4, 2) := by decide +kernel
theorem dX12_isExitBarred_177 : decode cX12_isExitBarred 177 = .ok (.iaload, 1) := by decide +kernel
theorem dX12_isExitBarred_178 : decode cX12_isExitBarred 178 = .ok (.iconst 5, 1) := by decide +kernel
theorem dX12_isExitBarred_179 : decode cX12_isExitBarred 179 = .ok (.if_icmp .ne 20, 3) := by decide +kernel
theorem dX12_isExitBarred_182 : decode cX12_isExitBarred 182 = .ok (.aload_n 0, 1) := by decide +kernel
theorem dX12_isExitBarred_183 : decode cX12_isExitBarred 183 = .ok (.getfield 31, 3) := by decide +kernel
theorem dX12_isExitBarred_186 : decode cX12_isExitBarred 186 = .ok (.iload 4, 2) := by decide +kernel
theorem dX12_isExitBarred_188 : decode cX12_isExitBarred 188 = .ok (.iaload, 1) := by decide +kernel
theorem dX12_isExitBarred_189 : decode cX12_isExitBarred 189 = .ok (.iload_n 2, 1) := by decide +kernel
theorem dX12_isExitBarred_190 : decode cX12_isExitBarred 190 = .ok (.if_icmp .ne 9, 3) := by decide +kernel
theorem dX12_isExitBarred_193 : decode cX12_isExitBarred 193 = .ok (.aload_n 0, 1) := by decide +kernel
theorem dX12_isExitBarred_194 : decode cX12_isExitBarred 194 = .ok (.iload 4, 2) := by decide +kernel
theorem dX12_isExitBarred_196 : decode cX12_isExitBarred 196 = .ok (.invokevirtual 212, 3) := by decide +kernel
theorem dX12_isExitBarred_199 : decode cX12_isExitBarred 199 = .ok (.iinc 4 1, 3) := by decide +kernel
theorem dX12_isExitBarred_202 : decode cX12_isExitBarred 202 = .ok (.goto (-50), 3) := by decide +kernel
theorem dX12_isExitBarred_205 : decode cX12_isExitBarred 205 = .ok (.aload_n 0, 1) := by decide +kernel
theorem dX12_isExitBarred_206 : decode cX12_isExitBarred 206 = .ok (.getfield 205, 3) := by decide +kernel
theorem dX12_isExitBarred_209 : decode cX12_isExitBarred 209 = .ok (.iconst 2, 1) := by decide +kernel
theorem dX12_isExitBarred_210 : decode cX12_isExitBarred 210 = .ok (.if_icmp .ge 8, 3) := by decide +kernel
theorem dX12_isExitBarred_213 : decode cX12_isExitBarred 213 = .ok (.aload_n 0, 1) := by decide +kernel
theorem dX12_isExitBarred_214 : decode cX12_isExitBarred 214 = .ok (.iconst 0, 1) := by decide +kernel
theorem dX12_isExitBarred_215 : decode cX12_isExitBarred 215 = .ok (.putfield 205, 3) := by decide +kernel
theorem dX12_isExitBarred_218 : decode cX12_isExitBarred 218 = .ok (.aload_n 0, 1) := by decide +kernel
theorem dX12_isExitBarred_219 : decode cX12_isExitBarred 219 = .ok (.getfield 205, 3) := by decide +kernel
theorem dX12_isExitBarred_222 : decode cX12_isExitBarred 222 = .ok (.ifCond .le 7, 3) := by decide +kernel
theorem dX12_isExitBarred_225 : decode cX12_isExitBarred 225 = .ok (.iconst 1, 1) := by decide +kernel
theorem dX12_isExitBarred_226 : decode cX12_isExitBarred 226 = .ok (.goto 4, 3) := by decide +kernel
theorem dX12_isExitBarred_229 : decode cX12_isExitBarred 229 = .ok (.iconst 0, 1) := by decide +kernel
theorem dX12_isExitBarred_230 : decode cX12_isExitBarred 230 = .ok (.ireturn, 1) := by decide +kernel
theorem dX12_isFlagBarred_0 : decode cX12_isFlagBarred 0 = .ok (.aload_n 0, 1) := by decide +kernel
theorem dX12_isFlagBarred_1 : decode cX12_isFlagBarred 1 = .ok (.bipush 6, 2) := by decide +kernel
theorem dX12_isFlagBarred_3 : decode cX12_isFlagBarred 3 = .ok (.iload_n 1, 1) := by decide +kernel
theorem dX12_isFlagBarred_4 : decode cX12_isFlagBarred 4 = .ok (.iload_n 2, 1) := by decide +kernel
theorem dX12_isFlagBarred_5 : decode cX12_isFlagBarred 5 = .ok (.iconst 1, 1) := by decide +kernel
theorem dX12_isFlagBarred_6 : decode cX12_isFlagBarred 6 = .ok (.iload_n 3, 1) := by decide +kernel
theorem dX12_isFlagBarred_7 : decode cX12_isFlagBarred 7 = .ok (.isub, 1) := by decide +kernel
theorem dX12_isFlagBarred_8 : decode cX12_isFlagBarred 8 = .ok (.invokevirtual 216, 3) := by decide +kernel
theorem dX12_isFlagBarred_11 : decode cX12_isFlagBarred 11 = .ok (.istore 4, 2) := by decide +kernel
theorem dX12_isFlagBarred_13 : decode cX12_isFlagBarred 13 = .ok (.iload 4, 2) := by decide +kernel
theorem dX12_isFlagBarred_15 : decode cX12_isFlagBarred 15 = .ok (.bipush (-9), 2) := by decide +kernel
theorem dX12_isFlagBarred_17 : decode cX12_isFlagBarred 17 = .ok (.if_icmp .ne 30, 3) := by decide +kernel
theorem dX12_isFlagBarred_20 : decode cX12_isFlagBarred 20 = .ok (.iload_n 3, 1) := by decide +kernel
theorem dX12_isFlagBarred_21 : decode cX12_isFlagBarred 21 = .ok (.iconst 1, 1) := by decide +kernel
theorem dX12_isFlagBarred_22 : decode cX12_isFlagBarred 22 = .ok (.if_icmp .ne 25, 3) := by decide +kernel
theorem dX12_isFlagBarred_25 : decode cX12_isFlagBarred 25 = .ok (.iload_n 2, 1) := by decide +kernel
theorem dX12_isFlagBarred_26 : decode cX12_isFlagBarred 26 = .ok (.ifCond .eq 8, 3) := by decide +kernel
theorem dX12_isFlagBarred_29 : decode cX12_isFlagBarred 29 = .ok (.iload_n 2, 1) := by decide +kernel
theorem dX12_isFlagBarred_30 : decode cX12_isFlagBarred 30 = .ok (.iconst 1, 1) := by decide +kernel
theorem dX12_isFlagBarred_31 : decode cX12_isFlagBarred 31 = .ok (.if_icmp .ne 16, 3) := by decide +kernel
theorem dX12_isFlagBarred_34 : decode cX12_isFlagBarred 34 = .ok (.aload_n 0, 1) := by decide +kernel
theorem dX12_isFlagBarred_35 : decode cX12_isFlagBarred 35 = .ok (.bipush 6, 2) := by decide +kernel
theorem dX12_isFlagBarred_37 : decode cX12_isFlagBarred 37 = .ok (.iload_n 1, 1) := by decide +kernel
theorem dX12_isFlagBarred_38 : decode cX12_isFlagBarred 38 = .ok (.iconst 1, 1) := by decide +kernel
theorem dX12_isFlagBarred_39 : decode cX12_isFlagBarred 39 = .ok (.iload_n 2, 1) := by decide +kernel
theorem dX12_isFlagBarred_40 : decode cX12_isFlagBarred 40 = .ok (.isub, 1) := by decide +kernel
theorem dX12_isFlagBarred_41 : decode cX12_isFlagBarred 41 = .ok (.iconst 1, 1) := by decide +kernel
theorem dX12_isFlagBarred_42 : decode cX12_isFlagBarred 42 = .ok (.invokevirtual 216, 3) := by decide +kernel
theorem dX12_isFlagBarred_45 : decode cX12_isFlagBarred 45 = .ok (.istore 4, 2) := by decide +kernel
theorem dX12_isFlagBarred_47 : decode cX12_isFlagBarred 47 = .ok (.iload 4, 2) := by decide +kernel
theorem dX12_isFlagBarred_49 : decode cX12_isFlagBarred 49 = .ok (.bipush (-9), 2) := by decide +kernel
theorem dX12_isFlagBarred_51 : decode cX12_isFlagBarred 51 = .ok (.if_icmp .ne 43, 3) := by decide +kernel
theorem dX12_isFlagBarred_54 : decode cX12_isFlagBarred 54 = .ok (.iload_n 2, 1) := by decide +kernel
theorem dX12_isFlagBarred_55 : decode cX12_isFlagBarred 55 = .ok (.iconst 4, 1) := by decide +kernel
theorem dX12_isFlagBarred_56 : decode cX12_isFlagBarred 56 = .ok (.if_icmp .ne 38, 3) := by decide +kernel
theorem dX12_isFlagBarred_59 : decode cX12_isFlagBarred 59 = .ok (.iload_n 3, 1) := by decide +kernel
theorem dX12_isFlagBarred_60 : decode cX12_isFlagBarred 60 = .ok (.ifCond .ne 34, 3) := by decide +kernel
theorem dX12_isFlagBarred_63 : decode cX12_isFlagBarred 63 = .ok (.aload_n 0, 1) := by decide +kernel
theorem dX12_isFlagBarred_64 : decode cX12_isFlagBarred 64 = .ok (.iload_n 1, 1) := by decide +kernel
theorem dX12_isFlagBarred_65 : decode cX12_isFlagBarred 65 = .ok (.invokevirtual 208, 3) := by decide +kernel
theorem dX12_isFlagBarred_68 : decode cX12_isFlagBarred 68 = .ok (.bipush (-9), 2) := by decide +kernel
theorem dX12_isFlagBarred_70 : decode cX12_isFlagBarred 70 = .ok (.if_icmp .eq 24, 3) := by decide +kernel
theorem dX12_isFlagBarred_73 : decode cX12_isFlagBarred 73 = .ok (.aload_n 0, 1) := by decide +kernel
theorem dX12_isFlagBarred_74 : decode cX12_isFlagBarred 74 = .ok (.getfield 25, 3) := by decide +kernel
theorem dX12_isFlagBarred_77 : decode cX12_isFlagBarred 77 = .ok (.aload_n 0, 1) := by decide +kernel
theorem dX12_isFlagBarred_78 : decode cX12_isFlagBarred 78 = .ok (.iload_n 1, 1) := by decide +kernel
theorem dX12_isFlagBarred_79 : decode cX12_isFlagBarred 79 = .ok (.invokevirtual 208, 3) := by decide +kernel
theorem dX12_isFlagBarred_82 : decode cX12_isFlagBarred 82 = .ok (.iaload, 1) := by decide +kernel
theorem dX12_isFlagBarred_83 : decode cX12_isFlagBarred 83 = .ok (.iconst 3, 1) := by decide +kernel
theorem dX12_isFlagBarred_84 : decode cX12_isFlagBarred 84 = .ok (.if_icmp .ne 10, 3) := by decide +kernel
theorem dX12_isFlagBarred_87 : decode cX12_isFlagBarred 87 = .ok (.aload_n 0, 1) := by decide +kernel
theorem dX12_isFlagBarred_88 : decode cX12_isFlagBarred 88 = .ok (.iload_n 1, 1) := by decide +kernel
theorem dX12_isFlagBarred_89 : decode cX12_isFlagBarred 89 = .ok (.invokevirtual 208, 3) := by decide +kernel
theorem dX12_isFlagBarred_92 : decode cX12_isFlagBarred 92 = .ok (.istore 4, 2) := by decide +kernel
theorem dX12_isFlagBarred_94 : decode cX12_isFlagBarred 94 = .ok (.iload 4, 2) := by decide +kernel
theorem dX12_isFlagBarred_96 : decode cX12_isFlagBarred 96 = .ok (.bipush (-9), 2) := by decide +kernel
theorem dX12_isFlagBarred_98 : decode cX12_isFlagBarred 98 = .ok (.if_icmp .eq 9, 3) := by decide +kernel
theorem dX12_isFlagBarred_101 : decode cX12_isFlagBarred 101 = .ok (.aload_n 0, 1) := by decide +kernel
theorem dX12_isFlagBarred_102 : decode cX12_isFlagBarred 102 = .ok (.iload 4, 2) := by decide +kernel
theorem dX12_isFlagBarred_104 : decode cX12_isFlagBarred 104 = .ok (.invokevirtual 212, 3) := by decide +kernel
theorem dX12_isFlagBarred_107 : decode cX12_isFlagBarred 107 = .ok (.iload 4, 2) := by decide +kernel
theorem dX12_isFlagBarred_109 : decode cX12_isFlagBarred 109 = .ok (.bipush (-9), 2) := by decide +kernel
theorem dX12_isFlagBarred_111 : decode cX12_isFlagBarred 111 = .ok (.if_icmp .eq 7, 3) := by decide +kernel
theorem dX12_isFlagBarred_114 : decode cX12_isFlagBarred 114 = .ok (.iconst 1, 1) := by decide +kernel
theorem dX12_isFlagBarred_115 : decode cX12_isFlagBarred 115 = .ok (.goto 4, 3) := by decide +kernel
theorem dX12_isFlagBarred_118 : decode cX12_isFlagBarred 118 = .ok (.iconst 0, 1) := by decide +kernel
theorem dX12_isFlagBarred_119 : decode cX12_isFlagBarred 119 = .ok (.ireturn, 1) := by decide +kernel
theorem dX12_isKeyBarred_0 : decode cX12_isKeyBarred 0 = .ok (.iconst 0, 1) := by decide +kernel
theorem dX12_isKeyBarred_1 : decode cX12_isKeyBarred 1 = .ok (.istore_n 2, 1) := by decide +kernel
theorem dX12_isKeyBarred_2 : decode cX12_isKeyBarred 2 = .ok (.iload_n 2, 1) := by decide +kernel
theorem dX12_isKeyBarred_3 : decode cX12_isKeyBarred 3 = .ok (.aload_n 0, 1) := by decide +kernel
theorem dX12_isKeyBarred_4 : decode cX12_isKeyBarred 4 = .ok (.getfield 202, 3) := by decide +kernel
theorem dX12_isKeyBarred_7 : decode cX12_isKeyBarred 7 = .ok (.if_icmp .ge 44, 3) := by decide +kernel
theorem dX12_isKeyBarred_10 : decode cX12_isKeyBarred 10 = .ok (.aload_n 0, 1) := by decide +kernel
theorem dX12_isKeyBarred_11 : decode cX12_isKeyBarred 11 = .ok (.getfield 37, 3) := by decide +kernel
theorem dX12_isKeyBarred_14 : decode cX12_isKeyBarred 14 = .ok (.iload_n 2, 1) := by decide +kernel
theorem dX12_isKeyBarred_15 : decode cX12_isKeyBarred 15 = .ok (.baload, 1) := by decide +kernel
theorem dX12_isKeyBarred_16 : decode cX12_isKeyBarred 16 = .ok (.ifCond .eq 29, 3) := by decide +kernel
theorem dX12_isKeyBarred_19 : decode cX12_isKeyBarred 19 = .ok (.aload_n 0, 1) := by decide +kernel
theorem dX12_isKeyBarred_20 : decode cX12_isKeyBarred 20 = .ok (.getfield 25, 3) := by decide +kernel
theorem dX12_isKeyBarred_23 : decode cX12_isKeyBarred 23 = .ok (.iload_n 2, 1) := by decide +kernel
theorem dX12_isKeyBarred_24 : decode cX12_isKeyBarred 24 = .ok (.iaload, 1) := by decide +kernel
theorem dX12_isKeyBarred_25 : decode cX12_isKeyBarred 25 = .ok (.bipush 7, 2) := by decide +kernel
theorem dX12_isKeyBarred_27 : decode cX12_isKeyBarred 27 = .ok (.if_icmp .ne 18, 3) := by decide +kernel
theorem dX12_isKeyBarred_30 : decode cX12_isKeyBarred 30 = .ok (.aload_n 0, 1) := by decide +kernel
theorem dX12_isKeyBarred_31 : decode cX12_isKeyBarred 31 = .ok (.getfield 31, 3) := by decide +kernel
theorem dX12_isKeyBarred_34 : decode cX12_isKeyBarred 34 = .ok (.iload_n 2, 1) := by decide +kernel
theorem dX12_isKeyBarred_35 : decode cX12_isKeyBarred 35 = .ok (.iaload, 1) := by decide +kernel
theorem dX12_isKeyBarred_36 : decode cX12_isKeyBarred 36 = .ok (.iload_n 1, 1) := by decide +kernel
theorem dX12_isKeyBarred_37 : decode cX12_isKeyBarred 37 = .ok (.if_icmp .ne 8, 3) := by decide +kernel
theorem dX12_isKeyBarred_40 : decode cX12_isKeyBarred 40 = .ok (.aload_n 0, 1) := by decide +kernel
theorem dX12_isKeyBarred_41 : decode cX12_isKeyBarred 41 = .ok (.iload_n 2, 1) := by decide +kernel
theorem dX12_isKeyBarred_42 : decode cX12_isKeyBarred 42 = .ok (.invokevirtual 212, 3) := by decide +kernel
theorem dX12_isKeyBarred_45 : decode cX12_isKeyBarred 45 = .ok (.iinc 2 1, 3) := by decide +kernel
theorem dX12_isKeyBarred_48 : decode cX12_isKeyBarred 48 = .ok (.goto (-46), 3) := by decide +kernel
theorem dX12_isKeyBarred_51 : decode cX12_isKeyBarred 51 = .ok (.aload_n 0, 1) := by decide +kernel
theorem dX12_isKeyBarred_52 : decode cX12_isKeyBarred 52 = .ok (.getfield 205, 3) := by decide +kernel
theorem dX12_isKeyBarred_55 : decode cX12_isKeyBarred 55 = .ok (.ifCond .le 7, 3) := by decide +kernel
theorem dX12_isKeyBarred_58 : decode cX12_isKeyBarred 58 = .ok (.iconst 1, 1) := by decide +kernel
theorem dX12_isKeyBarred_59 : decode cX12_isKeyBarred 59 = .ok (.goto 4, 3) := by decide +kernel
theorem dX12_isKeyBarred_62 : decode cX12_isKeyBarred 62 = .ok (.iconst 0, 1) := by decide +kernel
theorem dX12_isKeyBarred_63 : decode cX12_isKeyBarred 63 = .ok (.ireturn, 1) := by decide +kernel
theorem dX12_saidMany_0 : decode cX12_saidMany 0 = .ok (.iconst 0, 1) := by decide +kernel
theorem dX12_saidMany_1 : decode cX12_saidMany 1 = .ok (.istore_n 1, 1) := by decide +kernel
theorem dX12_saidMany_2 : decode cX12_saidMany 2 = .ok (.iconst 0, 1) := by decide +kernel
theorem dX12_saidMany_3 : decode cX12_saidMany 3 = .ok (.istore_n 2, 1) := by decide +kernel
theorem dX12_saidMany_4 : decode cX12_saidMany 4 = .ok (.iload_n 2, 1) := by decide +kernel
theorem dX12_saidMany_5 : decode cX12_saidMany 5 = .ok (.aload_n 0, 1) := by decide +kernel
theorem dX12_saidMany_6 : decode cX12_saidMany 6 = .ok (.getfield 202, 3) := by decide +kernel
theorem dX12_saidMany_9 : decode cX12_saidMany 9 = .ok (.if_icmp .ge 26, 3) := by decide +kernel
theorem dX12_saidMany_12 : decode cX12_saidMany 12 = .ok (.iload_n 1, 1) := by decide +kernel
theorem dX12_saidMany_13 : decode cX12_saidMany 13 = .ok (.aload_n 0, 1) := by decide +kernel
theorem dX12_saidMany_14 : decode cX12_saidMany 14 = .ok (.getfield 37, 3) := by decide +kernel
theorem dX12_saidMany_17 : decode cX12_saidMany 17 = .ok (.iload_n 2, 1) := by decide +kernel
theorem dX12_saidMany_18 : decode cX12_saidMany 18 = .ok (.baload, 1) := by decide +kernel
theorem dX12_saidMany_19 : decode cX12_saidMany 19 = .ok (.ifCond .eq 7, 3) := by decide +kernel
theorem dX12_saidMany_22 : decode cX12_saidMany 22 = .ok (.iconst 1, 1) := by decide +kernel
theorem dX12_saidMany_23 : decode cX12_saidMany 23 = .ok (.goto 4, 3) := by decide +kernel
theorem dX12_saidMany_26 : decode cX12_saidMany 26 = .ok (.iconst 0, 1) := by decide +kernel
theorem dX12_saidMany_27 : decode cX12_saidMany 27 = .ok (.iadd, 1) := by decide +kernel
theorem dX12_saidMany_28 : decode cX12_saidMany 28 = .ok (.istore_n 1, 1) := by decide +kernel
theorem dX12_saidMany_29 : decode cX12_saidMany 29 = .ok (.iinc 2 1, 3) := by decide +kernel
theorem dX12_saidMany_32 : decode cX12_saidMany 32 = .ok (.goto (-28), 3) := by decide +kernel
theorem dX12_saidMany_35 : decode cX12_saidMany 35 = .ok (.iload_n 1, 1) := by decide +kernel
theorem dX12_saidMany_36 : decode cX12_saidMany 36 = .ok (.ireturn, 1) := by decide +kernel
theorem dX12_saidFlag_0 : decode cX12_saidFlag 0 = .ok (.aload_n 0, 1) := by decide +kernel
theorem dX12_saidFlag_1 : decode cX12_saidFlag 1 = .ok (.bipush 6, 2) := by decide +kernel
theorem dX12_saidFlag_3 : decode cX12_saidFlag 3 = .ok (.iload_n 1, 1) := by decide +kernel
theorem dX12_saidFlag_4 : decode cX12_saidFlag 4 = .ok (.iload_n 2, 1) := by decide +kernel
theorem dX12_saidFlag_5 : decode cX12_saidFlag 5 = .ok (.iconst 1, 1) := by decide +kernel
theorem dX12_saidFlag_6 : decode cX12_saidFlag 6 = .ok (.invokevirtual 216, 3) := by decide +kernel
theorem dX12_saidFlag_9 : decode cX12_saidFlag 9 = .ok (.bipush (-9), 2) := by decide +kernel
theorem dX12_saidFlag_11 : decode cX12_saidFlag 11 = .ok (.if_icmp .eq 5, 3) := by decide +kernel
theorem dX12_saidFlag_14 : decode cX12_saidFlag 14 = .ok (.iconst 1, 1) := by decide +kernel
theorem dX12_saidFlag_15 : decode cX12_saidFlag 15 = .ok (.ireturn, 1) := by decide +kernel
theorem dX12_saidFlag_16 : decode cX12_saidFlag 16 = .ok (.aload_n 0, 1) := by decide +kernel
theorem dX12_saidFlag_17 : decode cX12_saidFlag 17 = .ok (.bipush 6, 2) := by decide +kernel
theorem dX12_saidFlag_19 : decode cX12_saidFlag 19 = .ok (.iload_n 1, 1) := by decide +kernel
theorem dX12_saidFlag_20 : decode cX12_saidFlag 20 = .ok (.iload_n 2, 1) := by decide +kernel
theorem dX12_saidFlag_21 : decode cX12_saidFlag 21 = .ok (.iconst 0, 1) := by decide +kernel
theorem dX12_saidFlag_22 : decode cX12_saidFlag 22 = .ok (.invokevirtual 216, 3) := by decide +kernel
theorem dX12_saidFlag_25 : decode cX12_saidFlag 25 = .ok (.bipush (-9), 2) := by decide +kernel
theorem dX12_saidFlag_27 : decode cX12_saidFlag 27 = .ok (.if_icmp .eq 5, 3) := by decide +kernel
theorem dX12_saidFlag_30 : decode cX12_saidFlag 30 = .ok (.iconst 0, 1) := by decide +kernel
theorem dX12_saidFlag_31 : decode cX12_saidFlag 31 = .ok (.ireturn, 1) := by decide +kernel
theorem dX12_saidFlag_32 : decode cX12_saidFlag 32 = .ok (.aload_n 0, 1) := by decide +kernel
theorem dX12_saidFlag_33 : decode cX12_saidFlag 33 = .ok (.getfield 19, 3) := by decide +kernel
theorem dX12_saidFlag_36 : decode cX12_saidFlag 36 = .ok (.iload_n 1, 1) := by decide +kernel
theorem dX12_saidFlag_37 : decode cX12_saidFlag 37 = .ok (.iaload, 1) := by decide +kernel
theorem dX12_saidFlag_38 : decode cX12_saidFlag 38 = .ok (.istore_n 3, 1) := by decide +kernel
theorem dX12_saidFlag_39 : decode cX12_saidFlag 39 = .ok (.iload_n 3, 1) := by decide +kernel
theorem dX12_saidFlag_40 : decode cX12_saidFlag 40 = .ok (.bipush (-9), 2) := by decide +kernel
theorem dX12_saidFlag_42 : decode cX12_saidFlag 42 = .ok (.if_icmp .eq 41, 3) := by decide +kernel
theorem dX12_saidFlag_45 : decode cX12_saidFlag 45 = .ok (.aload_n 0, 1) := by decide +kernel
theorem dX12_saidFlag_46 : decode cX12_saidFlag 46 = .ok (.getfield 16, 3) := by decide +kernel
theorem dX12_saidFlag_49 : decode cX12_saidFlag 49 = .ok (.bipush 6, 2) := by decide +kernel
theorem dX12_saidFlag_51 : decode cX12_saidFlag 51 = .ok (.iload_n 3, 1) := by decide +kernel
theorem dX12_saidFlag_52 : decode cX12_saidFlag 52 = .ok (.imul, 1) := by decide +kernel
theorem dX12_saidFlag_53 : decode cX12_saidFlag 53 = .ok (.iload_n 2, 1) := by decide +kernel
theorem dX12_saidFlag_54 : decode cX12_saidFlag 54 = .ok (.iadd, 1) := by decide +kernel
theorem dX12_saidFlag_55 : decode cX12_saidFlag 55 = .ok (.iaload, 1) := by decide +kernel
theorem dX12_saidFlag_56 : decode cX12_saidFlag 56 = .ok (.bipush (-9), 2) := by decide +kernel
theorem dX12_saidFlag_58 : decode cX12_saidFlag 58 = .ok (.if_icmp .eq 15, 3) := by decide +kernel
theorem dX12_saidFlag_61 : decode cX12_saidFlag 61 = .ok (.aload_n 0, 1) := by decide +kernel
theorem dX12_saidFlag_62 : decode cX12_saidFlag 62 = .ok (.getfield 16, 3) := by decide +kernel
theorem dX12_saidFlag_65 : decode cX12_saidFlag 65 = .ok (.bipush 6, 2) := by decide +kernel
theorem dX12_saidFlag_67 : decode cX12_saidFlag 67 = .ok (.iload_n 3, 1) := by decide +kernel
theorem dX12_saidFlag_68 : decode cX12_saidFlag 68 = .ok (.imul, 1) := by decide +kernel
theorem dX12_saidFlag_69 : decode cX12_saidFlag 69 = .ok (.iload_n 2, 1) := by decide +kernel
theorem dX12_saidFlag_70 : decode cX12_saidFlag 70 = .ok (.iadd, 1) := by decide +kernel
theorem dX12_saidFlag_71 : decode cX12_saidFlag 71 = .ok (.iaload, 1) := by decide +kernel
theorem dX12_saidFlag_72 : decode cX12_saidFlag 72 = .ok (.ireturn, 1) := by decide +kernel
theorem dX12_saidFlag_73 : decode cX12_saidFlag 73 = .ok (.aload_n 0, 1) := by decide +kernel
theorem dX12_saidFlag_74 : decode cX12_saidFlag 74 = .ok (.getfield 13, 3) := by decide +kernel
theorem dX12_saidFlag_77 : decode cX12_saidFlag 77 = .ok (.iload_n 3, 1) := by decide +kernel
theorem dX12_saidFlag_78 : decode cX12_saidFlag 78 = .ok (.iaload, 1) := by decide +kernel
theorem dX12_saidFlag_79 : decode cX12_saidFlag 79 = .ok (.istore_n 3, 1) := by decide +kernel
theorem dX12_saidFlag_80 : decode cX12_saidFlag 80 = .ok (.goto (-41), 3) := by decide +kernel
theorem dX12_saidFlag_83 : decode cX12_saidFlag 83 = .ok (.iload_n 2, 1) := by decide +kernel
theorem dX12_saidFlag_84 : decode cX12_saidFlag 84 = .ok (.iconst 2, 1) := by decide +kernel
theorem dX12_saidFlag_85 : decode cX12_saidFlag 85 = .ok (.if_icmp .ne 16, 3) := by decide +kernel
theorem dX12_saidFlag_88 : decode cX12_saidFlag 88 = .ok (.aload_n 0, 1) := by decide +kernel
theorem dX12_saidFlag_89 : decode cX12_saidFlag 89 = .ok (.iload_n 1, 1) := by decide +kernel
theorem dX12_saidFlag_90 : decode cX12_saidFlag 90 = .ok (.iconst 0, 1) := by decide +kernel
theorem dX12_saidFlag_91 : decode cX12_saidFlag 91 = .ok (.invokevirtual 184, 3) := by decide +kernel
theorem dX12_saidFlag_94 : decode cX12_saidFlag 94 = .ok (.ifCond .eq 7, 3) := by decide +kernel
theorem dX12_saidFlag_97 : decode cX12_saidFlag 97 = .ok (.iconst 1, 1) := by decide +kernel
theorem dX12_saidFlag_98 : decode cX12_saidFlag 98 = .ok (.goto 4, 3) := by decide +kernel
theorem dX12_saidFlag_101 : decode cX12_saidFlag 101 = .ok (.iconst 0, 1) := by decide +kernel
theorem dX12_saidFlag_102 : decode cX12_saidFlag 102 = .ok (.ireturn, 1) := by decide +kernel
theorem dX12_keyOf_0 : decode cX12_keyOf 0 = .ok (.iconst 0, 1) := by decide +kernel
theorem dX12_keyOf_1 : decode cX12_keyOf 1 = .ok (.istore_n 2, 1) := by decide +kernel
theorem dX12_keyOf_2 : decode cX12_keyOf 2 = .ok (.iload_n 2, 1) := by decide +kernel
theorem dX12_keyOf_3 : decode cX12_keyOf 3 = .ok (.aload_n 0, 1) := by decide +kernel
theorem dX12_keyOf_4 : decode cX12_keyOf 4 = .ok (.getfield 202, 3) := by decide +kernel
theorem dX12_keyOf_7 : decode cX12_keyOf 7 = .ok (.if_icmp .ge 46, 3) := by decide +kernel
theorem dX12_keyOf_10 : decode cX12_keyOf 10 = .ok (.aload_n 0, 1) := by decide +kernel
theorem dX12_keyOf_11 : decode cX12_keyOf 11 = .ok (.getfield 37, 3) := by decide +kernel
theorem dX12_keyOf_14 : decode cX12_keyOf 14 = .ok (.iload_n 2, 1) := by decide +kernel
theorem dX12_keyOf_15 : decode cX12_keyOf 15 = .ok (.baload, 1) := by decide +kernel
theorem dX12_keyOf_16 : decode cX12_keyOf 16 = .ok (.ifCond .eq 31, 3) := by decide +kernel
theorem dX12_keyOf_19 : decode cX12_keyOf 19 = .ok (.aload_n 0, 1) := by decide +kernel
theorem dX12_keyOf_20 : decode cX12_keyOf 20 = .ok (.getfield 25, 3) := by decide +kernel
theorem dX12_keyOf_23 : decode cX12_keyOf 23 = .ok (.iload_n 2, 1) := by decide +kernel
theorem dX12_keyOf_24 : decode cX12_keyOf 24 = .ok (.iaload, 1) := by decide +kernel
theorem dX12_keyOf_25 : decode cX12_keyOf 25 = .ok (.bipush 7, 2) := by decide +kernel
theorem dX12_keyOf_27 : decode cX12_keyOf 27 = .ok (.if_icmp .ne 20, 3) := by decide +kernel
theorem dX12_keyOf_30 : decode cX12_keyOf 30 = .ok (.aload_n 0, 1) := by decide +kernel
theorem dX12_keyOf_31 : decode cX12_keyOf 31 = .ok (.getfield 31, 3) := by decide +kernel
theorem dX12_keyOf_34 : decode cX12_keyOf 34 = .ok (.iload_n 2, 1) := by decide +kernel
theorem dX12_keyOf_35 : decode cX12_keyOf 35 = .ok (.iaload, 1) := by decide +kernel
theorem dX12_keyOf_36 : decode cX12_keyOf 36 = .ok (.iload_n 1, 1) := by decide +kernel
theorem dX12_keyOf_37 : decode cX12_keyOf 37 = .ok (.if_icmp .ne 10, 3) := by decide +kernel
theorem dX12_keyOf_40 : decode cX12_keyOf 40 = .ok (.aload_n 0, 1) := by decide +kernel
theorem dX12_keyOf_41 : decode cX12_keyOf 41 = .ok (.getfield 28, 3) := by decide +kernel
theorem dX12_keyOf_44 : decode cX12_keyOf 44 = .ok (.iload_n 2, 1) := by decide +kernel
theorem dX12_keyOf_45 : decode cX12_keyOf 45 = .ok (.iaload, 1) := by decide +kernel
theorem dX12_keyOf_46 : decode cX12_keyOf 46 = .ok (.ireturn, 1) := by decide +kernel
theorem dX12_keyOf_47 : decode cX12_keyOf 47 = .ok (.iinc 2 1, 3) := by decide +kernel
theorem dX12_keyOf_50 : decode cX12_keyOf 50 = .ok (.goto (-48), 3) := by decide +kernel
theorem dX12_keyOf_53 : decode cX12_keyOf 53 = .ok (.bipush (-9), 2) := by decide +kernel
theorem dX12_keyOf_55 : decode cX12_keyOf 55 = .ok (.ireturn, 1) := by decide +kernel
theorem dX12_findExit_0 : decode cX12_findExit 0 = .ok (.aload_n 0, 1) := by decide +kernel
theorem dX12_findExit_1 : decode cX12_findExit 1 = .ok (.bipush (-9), 2) := by decide +kernel
theorem dX12_findExit_3 : decode cX12_findExit 3 = .ok (.putfield 263, 3) := by decide +kernel
theorem dX12_findExit_6 : decode cX12_findExit 6 = .ok (.aload_n 0, 1) := by decide +kernel
theorem dX12_findExit_7 : decode cX12_findExit 7 = .ok (.bipush (-9), 2) := by decide +kernel
theorem dX12_findExit_9 : decode cX12_findExit 9 = .ok (.putfield 266, 3) := by decide +kernel
theorem dX12_findExit_12 : decode cX12_findExit 12 = .ok (.aload_n 0, 1) := by decide +kernel
theorem dX12_findExit_13 : decode cX12_findExit 13 = .ok (.bipush (-9), 2) := by decide +kernel
theorem dX12_findExit_15 : decode cX12_findExit 15 = .ok (.putfield 269, 3) := by decide +kernel
theorem dX12_findExit_18 : decode cX12_findExit 18 = .ok (.aload_n 0, 1) := by decide +kernel
