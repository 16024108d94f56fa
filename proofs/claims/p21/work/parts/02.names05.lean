theorem dX12_shuts_10 : decode cX12_shuts 10 = .ok (.getfield 56, 3) := by decide +kernel
theorem dX12_shuts_13 : decode cX12_shuts 13 = .ok (.iload_n 1, 1) := by decide +kernel
theorem dX12_shuts_14 : decode cX12_shuts 14 = .ok (.baload, 1) := by decide +kernel
theorem dX12_shuts_15 : decode cX12_shuts 15 = .ok (.ifCond .ne 20, 3) := by decide +kernel
theorem dX12_shuts_18 : decode cX12_shuts 18 = .ok (.iload_n 2, 1) := by decide +kernel
theorem dX12_shuts_19 : decode cX12_shuts 19 = .ok (.ifCond .ne 12, 3) := by decide +kernel
theorem dX12_shuts_22 : decode cX12_shuts 22 = .ok (.aload_n 0, 1) := by decide +kernel
theorem dX12_shuts_23 : decode cX12_shuts 23 = .ok (.getfield 95, 3) := by decide +kernel
theorem dX12_shuts_26 : decode cX12_shuts 26 = .ok (.iload_n 1, 1) := by decide +kernel
theorem dX12_shuts_27 : decode cX12_shuts 27 = .ok (.baload, 1) := by decide +kernel
theorem dX12_shuts_28 : decode cX12_shuts 28 = .ok (.ifCond .ne 7, 3) := by decide +kernel
theorem dX12_shuts_31 : decode cX12_shuts 31 = .ok (.iconst 1, 1) := by decide +kernel
theorem dX12_shuts_32 : decode cX12_shuts 32 = .ok (.goto 4, 3) := by decide +kernel
theorem dX12_shuts_35 : decode cX12_shuts 35 = .ok (.iconst 0, 1) := by decide +kernel
theorem dX12_shuts_36 : decode cX12_shuts 36 = .ok (.ireturn, 1) := by decide +kernel
theorem dX12_shellOf_0 : decode cX12_shellOf 0 = .ok (.aload_n 0, 1) := by decide +kernel
theorem dX12_shellOf_1 : decode cX12_shellOf 1 = .ok (.getfield 53, 3) := by decide +kernel
theorem dX12_shellOf_4 : decode cX12_shellOf 4 = .ok (.aload_n 0, 1) := by decide +kernel
theorem dX12_shellOf_5 : decode cX12_shellOf 5 = .ok (.getfield 155, 3) := by decide +kernel
theorem dX12_shellOf_8 : decode cX12_shellOf 8 = .ok (.iaload, 1) := by decide +kernel
theorem dX12_shellOf_9 : decode cX12_shellOf 9 = .ok (.istore_n 2, 1) := by decide +kernel
theorem dX12_shellOf_10 : decode cX12_shellOf 10 = .ok (.aload_n 0, 1) := by decide +kernel
theorem dX12_shellOf_11 : decode cX12_shellOf 11 = .ok (.getfield 101, 3) := by decide +kernel
theorem dX12_shellOf_14 : decode cX12_shellOf 14 = .ok (.iload_n 2, 1) := by decide +kernel
theorem dX12_shellOf_15 : decode cX12_shellOf 15 = .ok (.baload, 1) := by decide +kernel
theorem dX12_shellOf_16 : decode cX12_shellOf 16 = .ok (.ifCond .ne 22, 3) := by decide +kernel
theorem dX12_shellOf_19 : decode cX12_shellOf 19 = .ok (.aload_n 0, 1) := by decide +kernel
theorem dX12_shellOf_20 : decode cX12_shellOf 20 = .ok (.iload_n 2, 1) := by decide +kernel
theorem dX12_shellOf_21 : decode cX12_shellOf 21 = .ok (.iload_n 1, 1) := by decide +kernel
theorem dX12_shellOf_22 : decode cX12_shellOf 22 = .ok (.invokevirtual 324, 3) := by decide +kernel
theorem dX12_shellOf_25 : decode cX12_shellOf 25 = .ok (.ifCond .ne 13, 3) := by decide +kernel
theorem dX12_shellOf_28 : decode cX12_shellOf 28 = .ok (.aload_n 0, 1) := by decide +kernel
theorem dX12_shellOf_29 : decode cX12_shellOf 29 = .ok (.getfield 53, 3) := by decide +kernel
theorem dX12_shellOf_32 : decode cX12_shellOf 32 = .ok (.iload_n 2, 1) := by decide +kernel
theorem dX12_shellOf_33 : decode cX12_shellOf 33 = .ok (.iaload, 1) := by decide +kernel
theorem dX12_shellOf_34 : decode cX12_shellOf 34 = .ok (.istore_n 2, 1) := by decide +kernel
theorem dX12_shellOf_35 : decode cX12_shellOf 35 = .ok (.goto (-25), 3) := by decide +kernel
theorem dX12_shellOf_38 : decode cX12_shellOf 38 = .ok (.iload_n 2, 1) := by decide +kernel
theorem dX12_shellOf_39 : decode cX12_shellOf 39 = .ok (.ireturn, 1) := by decide +kernel
theorem dX12_isInView_0 : decode cX12_isInView 0 = .ok (.iload_n 1, 1) := by decide +kernel
theorem dX12_isInView_1 : decode cX12_isInView 1 = .ok (.aload_n 0, 1) := by decide +kernel
theorem dX12_isInView_2 : decode cX12_isInView 2 = .ok (.getfield 155, 3) := by decide +kernel
theorem dX12_isInView_5 : decode cX12_isInView 5 = .ok (.if_icmp .eq 8, 3) := by decide +kernel
theorem dX12_isInView_8 : decode cX12_isInView 8 = .ok (.iload_n 1, 1) := by decide +kernel
theorem dX12_isInView_9 : decode cX12_isInView 9 = .ok (.iload_n 2, 1) := by decide +kernel
theorem dX12_isInView_10 : decode cX12_isInView 10 = .ok (.if_icmp .ne 26, 3) := by decide +kernel
theorem dX12_isInView_13 : decode cX12_isInView 13 = .ok (.iload_n 1, 1) := by decide +kernel
theorem dX12_isInView_14 : decode cX12_isInView 14 = .ok (.aload_n 0, 1) := by decide +kernel
theorem dX12_isInView_15 : decode cX12_isInView 15 = .ok (.getfield 155, 3) := by decide +kernel
theorem dX12_isInView_18 : decode cX12_isInView 18 = .ok (.if_icmp .eq 12, 3) := by decide +kernel
theorem dX12_isInView_21 : decode cX12_isInView 21 = .ok (.aload_n 0, 1) := by decide +kernel
theorem dX12_isInView_22 : decode cX12_isInView 22 = .ok (.getfield 98, 3) := by decide +kernel
theorem dX12_isInView_25 : decode cX12_isInView 25 = .ok (.iload_n 2, 1) := by decide +kernel
theorem dX12_isInView_26 : decode cX12_isInView 26 = .ok (.baload, 1) := by decide +kernel
theorem dX12_isInView_27 : decode cX12_isInView 27 = .ok (.ifCond .eq 7, 3) := by decide +kernel
theorem dX12_isInView_30 : decode cX12_isInView 30 = .ok (.iconst 1, 1) := by decide +kernel
theorem dX12_isInView_31 : decode cX12_isInView 31 = .ok (.goto 4, 3) := by decide +kernel
theorem dX12_isInView_34 : decode cX12_isInView 34 = .ok (.iconst 0, 1) := by decide +kernel
theorem dX12_isInView_35 : decode cX12_isInView 35 = .ok (.ireturn, 1) := by decide +kernel
theorem dX12_isInView_36 : decode cX12_isInView 36 = .ok (.aload_n 0, 1) := by decide +kernel
theorem dX12_isInView_37 : decode cX12_isInView 37 = .ok (.getfield 104, 3) := by decide +kernel
theorem dX12_isInView_40 : decode cX12_isInView 40 = .ok (.iload_n 1, 1) := by decide +kernel
theorem dX12_isInView_41 : decode cX12_isInView 41 = .ok (.baload, 1) := by decide +kernel
theorem dX12_isInView_42 : decode cX12_isInView 42 = .ok (.ifCond .eq 27, 3) := by decide +kernel
theorem dX12_isInView_45 : decode cX12_isInView 45 = .ok (.aload_n 0, 1) := by decide +kernel
theorem dX12_isInView_46 : decode cX12_isInView 46 = .ok (.getfield 101, 3) := by decide +kernel
theorem dX12_isInView_49 : decode cX12_isInView 49 = .ok (.iload_n 2, 1) := by decide +kernel
theorem dX12_isInView_50 : decode cX12_isInView 50 = .ok (.baload, 1) := by decide +kernel
theorem dX12_isInView_51 : decode cX12_isInView 51 = .ok (.ifCond .eq 16, 3) := by decide +kernel
theorem dX12_isInView_54 : decode cX12_isInView 54 = .ok (.aload_n 0, 1) := by decide +kernel
theorem dX12_isInView_55 : decode cX12_isInView 55 = .ok (.iload_n 1, 1) := by decide +kernel
theorem dX12_isInView_56 : decode cX12_isInView 56 = .ok (.iload_n 2, 1) := by decide +kernel
theorem dX12_isInView_57 : decode cX12_isInView 57 = .ok (.invokevirtual 328, 3) := by decide +kernel
theorem dX12_isInView_60 : decode cX12_isInView 60 = .ok (.ifCond .eq 7, 3) := by decide +kernel
theorem dX12_isInView_63 : decode cX12_isInView 63 = .ok (.iconst 1, 1) := by decide +kernel
theorem dX12_isInView_64 : decode cX12_isInView 64 = .ok (.goto 4, 3) := by decide +kernel
theorem dX12_isInView_67 : decode cX12_isInView 67 = .ok (.iconst 0, 1) := by decide +kernel
theorem dX12_isInView_68 : decode cX12_isInView 68 = .ok (.ireturn, 1) := by decide +kernel
theorem dX12_isInView_69 : decode cX12_isInView 69 = .ok (.iload_n 1, 1) := by decide +kernel
theorem dX12_isInView_70 : decode cX12_isInView 70 = .ok (.istore 4, 2) := by decide +kernel
theorem dX12_isInView_72 : decode cX12_isInView 72 = .ok (.aload_n 0, 1) := by decide +kernel
theorem dX12_isInView_73 : decode cX12_isInView 73 = .ok (.getfield 50, 3) := by decide +kernel
theorem dX12_isInView_76 : decode cX12_isInView 76 = .ok (.iload 4, 2) := by decide +kernel
theorem dX12_isInView_78 : decode cX12_isInView 78 = .ok (.iaload, 1) := by decide +kernel
theorem dX12_isInView_79 : decode cX12_isInView 79 = .ok (.bipush (-9), 2) := by decide +kernel
theorem dX12_isInView_81 : decode cX12_isInView 81 = .ok (.if_icmp .eq 32, 3) := by decide +kernel
theorem dX12_isInView_84 : decode cX12_isInView 84 = .ok (.aload_n 0, 1) := by decide +kernel
theorem dX12_isInView_85 : decode cX12_isInView 85 = .ok (.getfield 53, 3) := by decide +kernel
theorem dX12_isInView_88 : decode cX12_isInView 88 = .ok (.iload 4, 2) := by decide +kernel
theorem dX12_isInView_90 : decode cX12_isInView 90 = .ok (.iaload, 1) := by decide +kernel
theorem dX12_isInView_91 : decode cX12_isInView 91 = .ok (.istore 4, 2) := by decide +kernel
theorem dX12_isInView_93 : decode cX12_isInView 93 = .ok (.iload 4, 2) := by decide +kernel
theorem dX12_isInView_95 : decode cX12_isInView 95 = .ok (.iload_n 2, 1) := by decide +kernel
theorem dX12_isInView_96 : decode cX12_isInView 96 = .ok (.if_icmp .ne 5, 3) := by decide +kernel
theorem dX12_isInView_99 : decode cX12_isInView 99 = .ok (.iconst 1, 1) := by decide +kernel
theorem dX12_isInView_100 : decode cX12_isInView 100 = .ok (.ireturn, 1) := by decide +kernel
theorem dX12_isInView_101 : decode cX12_isInView 101 = .ok (.aload_n 0, 1) := by decide +kernel
theorem dX12_isInView_102 : decode cX12_isInView 102 = .ok (.iload 4, 2) := by decide +kernel
theorem dX12_isInView_104 : decode cX12_isInView 104 = .ok (.iload_n 3, 1) := by decide +kernel
theorem dX12_isInView_105 : decode cX12_isInView 105 = .ok (.invokevirtual 324, 3) := by decide +kernel
theorem dX12_isInView_108 : decode cX12_isInView 108 = .ok (.ifCond .eq (-36), 3) := by decide +kernel
theorem dX12_isInView_111 : decode cX12_isInView 111 = .ok (.iconst 0, 1) := by decide +kernel
theorem dX12_isInView_112 : decode cX12_isInView 112 = .ok (.ireturn, 1) := by decide +kernel
theorem dX12_isInView_113 : decode cX12_isInView 113 = .ok (.iconst 0, 1) := by decide +kernel
theorem dX12_isInView_114 : decode cX12_isInView 114 = .ok (.ireturn, 1) := by decide +kernel
theorem dX12_lookAround_0 : decode cX12_lookAround 0 = .ok (.aload_n 0, 1) := by decide +kernel
theorem dX12_lookAround_1 : decode cX12_lookAround 1 = .ok (.aload_n 0, 1) := by decide +kernel
theorem dX12_lookAround_2 : decode cX12_lookAround 2 = .ok (.iconst 0, 1) := by decide +kernel
theorem dX12_lookAround_3 : decode cX12_lookAround 3 = .ok (.invokevirtual 331, 3) := by decide +kernel
theorem dX12_lookAround_6 : decode cX12_lookAround 6 = .ok (.putfield 335, 3) := by decide +kernel
theorem dX12_lookAround_9 : decode cX12_lookAround 9 = .ok (.aload_n 0, 1) := by decide +kernel
theorem dX12_lookAround_10 : decode cX12_lookAround 10 = .ok (.aload_n 0, 1) := by decide +kernel
theorem dX12_lookAround_11 : decode cX12_lookAround 11 = .ok (.iconst 1, 1) := by decide +kernel
theorem dX12_lookAround_12 : decode cX12_lookAround 12 = .ok (.invokevirtual 331, 3) := by decide +kernel
theorem dX12_lookAround_15 : decode cX12_lookAround 15 = .ok (.putfield 338, 3) := by decide +kernel
theorem dX12_lookAround_18 : decode cX12_lookAround 18 = .ok (.aload_n 0, 1) := by decide +kernel
theorem dX12_lookAround_19 : decode cX12_lookAround 19 = .ok (.aload_n 0, 1) := by decide +kernel
theorem dX12_lookAround_20 : decode cX12_lookAround 20 = .ok (.getfield 101, 3) := by decide +kernel
theorem dX12_lookAround_23 : decode cX12_lookAround 23 = .ok (.aload_n 0, 1) := by decide +kernel
theorem dX12_lookAround_24 : decode cX12_lookAround 24 = .ok (.getfield 335, 3) := by decide +kernel
theorem dX12_lookAround_27 : decode cX12_lookAround 27 = .ok (.baload, 1) := by decide +kernel
theorem dX12_lookAround_28 : decode cX12_lookAround 28 = .ok (.ifCond .eq 19, 3) := by decide +kernel
theorem dX12_lookAround_31 : decode cX12_lookAround 31 = .ok (.aload_n 0, 1) := by decide +kernel
theorem dX12_lookAround_32 : decode cX12_lookAround 32 = .ok (.getfield 92, 3) := by decide +kernel
theorem dX12_lookAround_35 : decode cX12_lookAround 35 = .ok (.aload_n 0, 1) := by decide +kernel
theorem dX12_lookAround_36 : decode cX12_lookAround 36 = .ok (.getfield 335, 3) := by decide +kernel
theorem dX12_lookAround_39 : decode cX12_lookAround 39 = .ok (.baload, 1) := by decide +kernel
theorem dX12_lookAround_40 : decode cX12_lookAround 40 = .ok (.ifCond .eq 7, 3) := by decide +kernel
theorem dX12_lookAround_43 : decode cX12_lookAround 43 = .ok (.iconst 1, 1) := by decide +kernel
theorem dX12_lookAround_44 : decode cX12_lookAround 44 = .ok (.goto 4, 3) := by decide +kernel
theorem dX12_lookAround_47 : decode cX12_lookAround 47 = .ok (.iconst 0, 1) := by decide +kernel
theorem dX12_lookAround_48 : decode cX12_lookAround 48 = .ok (.putfield 341, 3) := by decide +kernel
theorem dX12_lookAround_51 : decode cX12_lookAround 51 = .ok (.iconst 0, 1) := by decide +kernel
theorem dX12_lookAround_52 : decode cX12_lookAround 52 = .ok (.istore_n 1, 1) := by decide +kernel
theorem dX12_lookAround_53 : decode cX12_lookAround 53 = .ok (.iload_n 1, 1) := by decide +kernel
theorem dX12_lookAround_54 : decode cX12_lookAround 54 = .ok (.aload_n 0, 1) := by decide +kernel
theorem dX12_lookAround_55 : decode cX12_lookAround 55 = .ok (.getfield 177, 3) := by decide +kernel
theorem dX12_lookAround_58 : decode cX12_lookAround 58 = .ok (.if_icmp .ge 56, 3) := by decide +kernel
theorem dX12_lookAround_61 : decode cX12_lookAround 61 = .ok (.aload_n 0, 1) := by decide +kernel
theorem dX12_lookAround_62 : decode cX12_lookAround 62 = .ok (.getfield 341, 3) := by decide +kernel
theorem dX12_lookAround_65 : decode cX12_lookAround 65 = .ok (.ifCond .ne 49, 3) := by decide +kernel
theorem dX12_lookAround_68 : decode cX12_lookAround 68 = .ok (.aload_n 0, 1) := by decide +kernel
theorem dX12_lookAround_69 : decode cX12_lookAround 69 = .ok (.aload_n 0, 1) := by decide +kernel
theorem dX12_lookAround_70 : decode cX12_lookAround 70 = .ok (.getfield 101, 3) := by decide +kernel
theorem dX12_lookAround_73 : decode cX12_lookAround 73 = .ok (.iload_n 1, 1) := by decide +kernel
theorem dX12_lookAround_74 : decode cX12_lookAround 74 = .ok (.baload, 1) := by decide +kernel
theorem dX12_lookAround_75 : decode cX12_lookAround 75 = .ok (.ifCond .ne 29, 3) := by decide +kernel
theorem dX12_lookAround_78 : decode cX12_lookAround 78 = .ok (.aload_n 0, 1) := by decide +kernel
theorem dX12_lookAround_79 : decode cX12_lookAround 79 = .ok (.getfield 92, 3) := by decide +kernel
theorem dX12_lookAround_82 : decode cX12_lookAround 82 = .ok (.iload_n 1, 1) := by decide +kernel
theorem dX12_lookAround_83 : decode cX12_lookAround 83 = .ok (.baload, 1) := by decide +kernel
theorem dX12_lookAround_84 : decode cX12_lookAround 84 = .ok (.ifCond .eq 20, 3) := by decide +kernel
theorem dX12_lookAround_87 : decode cX12_lookAround 87 = .ok (.aload_n 0, 1) := by decide +kernel
theorem dX12_lookAround_88 : decode cX12_lookAround 88 = .ok (.iload_n 1, 1) := by decide +kernel
theorem dX12_lookAround_89 : decode cX12_lookAround 89 = .ok (.aload_n 0, 1) := by decide +kernel
theorem dX12_lookAround_90 : decode cX12_lookAround 90 = .ok (.getfield 335, 3) := by decide +kernel
theorem dX12_lookAround_93 : decode cX12_lookAround 93 = .ok (.iconst 0, 1) := by decide +kernel
theorem dX12_lookAround_94 : decode cX12_lookAround 94 = .ok (.invokevirtual 344, 3) := by decide +kernel
theorem dX12_lookAround_97 : decode cX12_lookAround 97 = .ok (.ifCond .eq 7, 3) := by decide +kernel
theorem dX12_lookAround_100 : decode cX12_lookAround 100 = .ok (.iconst 1, 1) := by decide +kernel
theorem dX12_lookAround_101 : decode cX12_lookAround 101 = .ok (.goto 4, 3) := by decide +kernel
theorem dX12_lookAround_104 : decode cX12_lookAround 104 = .ok (.iconst 0, 1) := by decide +kernel
theorem dX12_lookAround_105 : decode cX12_lookAround 105 = .ok (.putfield 341, 3) := by decide +kernel
theorem dX12_lookAround_108 : decode cX12_lookAround 108 = .ok (.iinc 1 1, 3) := by decide +kernel
theorem dX12_lookAround_111 : decode cX12_lookAround 111 = .ok (.goto (-58), 3) := by decide +kernel
theorem dX12_lookAround_114 : decode cX12_lookAround 114 = .ok (.iconst 0, 1) := by decide +kernel
theorem dX12_lookAround_115 : decode cX12_lookAround 115 = .ok (.istore_n 1, 1) := by decide +kernel
theorem dX12_lookAround_116 : decode cX12_lookAround 116 = .ok (.iload_n 1, 1) := by decide +kernel
theorem dX12_lookAround_117 : decode cX12_lookAround 117 = .ok (.aload_n 0, 1) := by decide +kernel
theorem dX12_lookAround_118 : decode cX12_lookAround 118 = .ok (.getfield 177, 3) := by decide +kernel
theorem dX12_lookAround_121 : decode cX12_lookAround 121 = .ok (.if_icmp .ge 116, 3) := by decide +kernel
theorem dX12_lookAround_124 : decode cX12_lookAround 124 = .ok (.aload_n 0, 1) := by decide +kernel
theorem dX12_lookAround_125 : decode cX12_lookAround 125 = .ok (.getfield 53, 3) := by decide +kernel
theorem dX12_lookAround_128 : decode cX12_lookAround 128 = .ok (.iload_n 1, 1) := by decide +kernel
theorem dX12_lookAround_129 : decode cX12_lookAround 129 = .ok (.iaload, 1) := by decide +kernel
theorem dX12_lookAround_130 : decode cX12_lookAround 130 = .ok (.aload_n 0, 1) := by decide +kernel
theorem dX12_lookAround_131 : decode cX12_lookAround 131 = .ok (.getfield 155, 3) := by decide +kernel
theorem dX12_lookAround_134 : decode cX12_lookAround 134 = .ok (.if_icmp .ne 27, 3) := by decide +kernel
theorem dX12_lookAround_137 : decode cX12_lookAround 137 = .ok (.aload_n 0, 1) := by decide +kernel
theorem dX12_lookAround_138 : decode cX12_lookAround 138 = .ok (.getfield 50, 3) := by decide +kernel
theorem dX12_lookAround_141 : decode cX12_lookAround 141 = .ok (.iload_n 1, 1) := by decide +kernel
theorem dX12_lookAround_142 : decode cX12_lookAround 142 = .ok (.iaload, 1) := by decide +kernel
theorem dX12_lookAround_143 : decode cX12_lookAround 143 = .ok (.iconst 2, 1) := by decide +kernel
theorem dX12_lookAround_144 : decode cX12_lookAround 144 = .ok (.if_icmp .eq 13, 3) := by decide +kernel
theorem dX12_lookAround_147 : decode cX12_lookAround 147 = .ok (.aload_n 0, 1) := by decide +kernel
theorem dX12_lookAround_148 : decode cX12_lookAround 148 = .ok (.getfield 50, 3) := by decide +kernel
theorem dX12_lookAround_151 : decode cX12_lookAround 151 = .ok (.iload_n 1, 1) := by decide +kernel
theorem dX12_lookAround_152 : decode cX12_lookAround 152 = .ok (.iaload, 1) := by decide +kernel
theorem dX12_lookAround_153 : decode cX12_lookAround 153 = .ok (.iconst 3, 1) := by decide +kernel
theorem dX12_lookAround_154 : decode cX12_lookAround 154 = .ok (.if_icmp .ne 7, 3) := by decide +kernel
theorem dX12_lookAround_157 : decode cX12_lookAround 157 = .ok (.iconst 1, 1) := by decide +kernel
theorem dX12_lookAround_158 : decode cX12_lookAround 158 = .ok (.goto 4, 3) := by decide +kernel
theorem dX12_lookAround_161 : decode cX12_lookAround 161 = .ok (.iconst 0, 1) := by decide +kernel
theorem dX12_lookAround_162 : decode cX12_lookAround 162 = .ok (.istore_n 2, 1) := by decide +kernel
theorem dX12_lookAround_163 : decode cX12_lookAround 163 = .ok (.aload_n 0, 1) := by decide +kernel
theorem dX12_lookAround_164 : decode cX12_lookAround 164 = .ok (.getfield 86, 3) := by decide +kernel
theorem dX12_lookAround_167 : decode cX12_lookAround 167 = .ok (.iload_n 1, 1) := by decide +kernel
theorem dX12_lookAround_168 : decode cX12_lookAround 168 = .ok (.iload_n 2, 1) := by decide +kernel
theorem dX12_lookAround_169 : decode cX12_lookAround 169 = .ok (.ifCond .ne 23, 3) := by decide +kernel
theorem dX12_lookAround_172 : decode cX12_lookAround 172 = .ok (.aload_n 0, 1) := by decide +kernel
theorem dX12_lookAround_173 : decode cX12_lookAround 173 = .ok (.getfield 341, 3) := by decide +kernel
theorem dX12_lookAround_176 : decode cX12_lookAround 176 = .ok (.ifCond .eq 20, 3) := by decide +kernel
theorem dX12_lookAround_179 : decode cX12_lookAround 179 = .ok (.aload_n 0, 1) := by decide +kernel
theorem dX12_lookAround_180 : decode cX12_lookAround 180 = .ok (.iload_n 1, 1) := by decide +kernel
theorem dX12_lookAround_181 : decode cX12_lookAround 181 = .ok (.aload_n 0, 1) := by decide +kernel
theorem dX12_lookAround_182 : decode cX12_lookAround 182 = .ok (.getfield 335, 3) := by decide +kernel
theorem dX12_lookAround_185 : decode cX12_lookAround 185 = .ok (.iconst 0, 1) := by decide +kernel
theorem dX12_lookAround_186 : decode cX12_lookAround 186 = .ok (.invokevirtual 344, 3) := by decide +kernel
theorem dX12_lookAround_189 : decode cX12_lookAround 189 = .ok (.ifCond .eq 7, 3) := by decide +kernel
theorem dX12_lookAround_192 : decode cX12_lookAround 192 = .ok (.iconst 1, 1) := by decide +kernel
theorem dX12_lookAround_193 : decode cX12_lookAround 193 = .ok (.goto 4, 3) := by decide +kernel
theorem dX12_lookAround_196 : decode cX12_lookAround 196 = .ok (.iconst 0, 1) := by decide +kernel
theorem dX12_lookAround_197 : decode cX12_lookAround 197 = .ok (.bastore, 1) := by decide +kernel
theorem dX12_lookAround_198 : decode cX12_lookAround 198 = .ok (.aload_n 0, 1) := by decide +kernel
theorem dX12_lookAround_199 : decode cX12_lookAround 199 = .ok (.getfield 89, 3) := by decide +kernel
theorem dX12_lookAround_202 : decode cX12_lookAround 202 = .ok (.iload_n 1, 1) := by decide +kernel
theorem dX12_lookAround_203 : decode cX12_lookAround 203 = .ok (.aload_n 0, 1) := by decide +kernel
theorem dX12_lookAround_204 : decode cX12_lookAround 204 = .ok (.getfield 86, 3) := by decide +kernel
theorem dX12_lookAround_207 : decode cX12_lookAround 207 = .ok (.iload_n 1, 1) := by decide +kernel
theorem dX12_lookAround_208 : decode cX12_lookAround 208 = .ok (.baload, 1) := by decide +kernel
theorem dX12_lookAround_209 : decode cX12_lookAround 209 = .ok (.ifCond .eq 20, 3) := by decide +kernel
theorem dX12_lookAround_212 : decode cX12_lookAround 212 = .ok (.aload_n 0, 1) := by decide +kernel
theorem dX12_lookAround_213 : decode cX12_lookAround 213 = .ok (.iload_n 1, 1) := by decide +kernel
theorem dX12_lookAround_214 : decode cX12_lookAround 214 = .ok (.aload_n 0, 1) := by decide +kernel
theorem dX12_lookAround_215 : decode cX12_lookAround 215 = .ok (.getfield 338, 3) := by decide +kernel
theorem dX12_lookAround_218 : decode cX12_lookAround 218 = .ok (.iconst 1, 1) := by decide +kernel
theorem dX12_lookAround_219 : decode cX12_lookAround 219 = .ok (.invokevirtual 344, 3) := by decide +kernel
theorem dX12_lookAround_222 : decode cX12_lookAround 222 = .ok (.ifCond .eq 7, 3) := by decide +kernel
theorem dX12_lookAround_225 : decode cX12_lookAround 225 = .ok (.iconst 1, 1) := by decide +kernel
theorem dX12_lookAround_226 : decode cX12_lookAround 226 = .ok (.goto 4, 3) := by decide +kernel
theorem dX12_lookAround_229 : decode cX12_lookAround 229 = .ok (.iconst 0, 1) := by decide +kernel
theorem dX12_lookAround_230 : decode cX12_lookAround 230 = .ok (.bastore, 1) := by decide +kernel
theorem dX12_lookAround_231 : decode cX12_lookAround 231 = .ok (.iinc 1 1, 3) := by decide +kernel
theorem dX12_lookAround_234 : decode cX12_lookAround 234 = .ok (.goto (-118), 3) := by decide +kernel
theorem dX12_lookAround_237 : decode cX12_lookAround 237 = .ok (.return_, 1) := by decide +kernel
theorem dX12_roomOf_0 : decode cX12_roomOf 0 = .ok (.iload_n 1, 1) := by decide +kernel
theorem dX12_roomOf_1 : decode cX12_roomOf 1 = .ok (.istore_n 2, 1) := by decide +kernel
theorem dX12_roomOf_2 : decode cX12_roomOf 2 = .ok (.aload_n 0, 1) := by decide +kernel
theorem dX12_roomOf_3 : decode cX12_roomOf 3 = .ok (.iload_n 2, 1) := by decide +kernel
theorem dX12_roomOf_4 : decode cX12_roomOf 4 = .ok (.iconst 0, 1) := by decide +kernel
theorem dX12_roomOf_5 : decode cX12_roomOf 5 = .ok (.invokevirtual 184, 3) := by decide +kernel
theorem dX12_roomOf_8 : decode cX12_roomOf 8 = .ok (.ifCond .ne 27, 3) := by decide +kernel
theorem dX12_roomOf_11 : decode cX12_roomOf 11 = .ok (.aload_n 0, 1) := by decide +kernel
theorem dX12_roomOf_12 : decode cX12_roomOf 12 = .ok (.getfield 50, 3) := by decide +kernel
theorem dX12_roomOf_15 : decode cX12_roomOf 15 = .ok (.iload_n 2, 1) := by decide +kernel
theorem dX12_roomOf_16 : decode cX12_roomOf 16 = .ok (.iaload, 1) := by decide +kernel
theorem dX12_roomOf_17 : decode cX12_roomOf 17 = .ok (.bipush (-9), 2) := by decide +kernel
theorem dX12_roomOf_19 : decode cX12_roomOf 19 = .ok (.if_icmp .ne 6, 3) := by decide +kernel
theorem dX12_roomOf_22 : decode cX12_roomOf 22 = .ok (.bipush (-9), 2) := by decide +kernel
theorem dX12_roomOf_24 : decode cX12_roomOf 24 = .ok (.ireturn, 1) := by decide +kernel
theorem dX12_roomOf_25 : decode cX12_roomOf 25 = .ok (.aload_n 0, 1) := by decide +kernel
theorem dX12_roomOf_26 : decode cX12_roomOf 26 = .ok (.getfield 53, 3) := by decide +kernel
theorem dX12_roomOf_29 : decode cX12_roomOf 29 = .ok (.iload_n 2, 1) := by decide +kernel
theorem dX12_roomOf_30 : decode cX12_roomOf 30 = .ok (.iaload, 1) := by decide +kernel
theorem dX12_roomOf_31 : decode cX12_roomOf 31 = .ok (.istore_n 2, 1) := by decide +kernel
theorem dX12_roomOf_32 : decode cX12_roomOf 32 = .ok (.goto (-30), 3) := by decide +kernel
theorem dX12_roomOf_35 : decode cX12_roomOf 35 = .ok (.iload_n 2, 1) := by decide +kernel
theorem dX12_roomOf_36 : decode cX12_roomOf 36 = .ok (.ireturn, 1) := by decide +kernel
theorem dX12_begin_0 : decode cX12_begin 0 = .ok (.aload_n 0, 1) := by decide +kernel
theorem dX12_begin_1 : decode cX12_begin 1 = .ok (.iload_n 1, 1) := by decide +kernel
theorem dX12_begin_2 : decode cX12_begin 2 = .ok (.invokevirtual 180, 3) := by decide +kernel
theorem dX12_begin_5 : decode cX12_begin 5 = .ok (.ifCond .ne 5, 3) := by decide +kernel
theorem dX12_begin_8 : decode cX12_begin 8 = .ok (.iconst (-1), 1) := by decide +kernel
theorem dX12_begin_9 : decode cX12_begin 9 = .ok (.ireturn, 1) := by decide +kernel
theorem dX12_begin_10 : decode cX12_begin 10 = .ok (.aload_n 0, 1) := by decide +kernel
theorem dX12_begin_11 : decode cX12_begin 11 = .ok (.iload_n 1, 1) := by decide +kernel
theorem dX12_begin_12 : decode cX12_begin 12 = .ok (.iconst 5, 1) := by decide +kernel
theorem dX12_begin_13 : decode cX12_begin 13 = .ok (.invokevirtual 184, 3) := by decide +kernel
theorem dX12_begin_16 : decode cX12_begin 16 = .ok (.ifCond .ne 9, 3) := by decide +kernel
theorem dX12_begin_19 : decode cX12_begin 19 = .ok (.aload_n 0, 1) := by decide +kernel
theorem dX12_begin_20 : decode cX12_begin 20 = .ok (.iconst 3, 1) := by decide +kernel
theorem dX12_begin_21 : decode cX12_begin 21 = .ok (.invokevirtual 233, 3) := by decide +kernel
theorem dX12_begin_24 : decode cX12_begin 24 = .ok (.ireturn, 1) := by decide +kernel
theorem dX12_begin_25 : decode cX12_begin 25 = .ok (.iload_n 1, 1) := by decide +kernel
theorem dX12_begin_26 : decode cX12_begin 26 = .ok (.istore_n 2, 1) := by decide +kernel
theorem dX12_begin_27 : decode cX12_begin 27 = .ok (.iload_n 2, 1) := by decide +kernel
theorem dX12_begin_28 : decode cX12_begin 28 = .ok (.bipush (-9), 2) := by decide +kernel
theorem dX12_begin_30 : decode cX12_begin 30 = .ok (.if_icmp .eq 41, 3) := by decide +kernel
theorem dX12_begin_33 : decode cX12_begin 33 = .ok (.aload_n 0, 1) := by decide +kernel
theorem dX12_begin_34 : decode cX12_begin 34 = .ok (.iload_n 2, 1) := by decide +kernel
theorem dX12_begin_35 : decode cX12_begin 35 = .ok (.iconst 0, 1) := by decide +kernel
theorem dX12_begin_36 : decode cX12_begin 36 = .ok (.invokevirtual 184, 3) := by decide +kernel
theorem dX12_begin_39 : decode cX12_begin 39 = .ok (.ifCond .ne 32, 3) := by decide +kernel
theorem dX12_begin_42 : decode cX12_begin 42 = .ok (.aload_n 0, 1) := by decide +kernel
theorem dX12_begin_43 : decode cX12_begin 43 = .ok (.iload_n 2, 1) := by decide +kernel
theorem dX12_begin_44 : decode cX12_begin 44 = .ok (.invokevirtual 208, 3) := by decide +kernel
theorem dX12_begin_47 : decode cX12_begin 47 = .ok (.bipush (-9), 2) := by decide +kernel
theorem dX12_begin_49 : decode cX12_begin 49 = .ok (.if_icmp .ne 8, 3) := by decide +kernel
theorem dX12_begin_52 : decode cX12_begin 52 = .ok (.bipush (-9), 2) := by decide +kernel
theorem dX12_begin_54 : decode cX12_begin 54 = .ok (.goto 13, 3) := by decide +kernel
theorem dX12_begin_57 : decode cX12_begin 57 = .ok (.aload_n 0, 1) := by decide +kernel
theorem dX12_begin_58 : decode cX12_begin 58 = .ok (.getfield 31, 3) := by decide +kernel
theorem dX12_begin_61 : decode cX12_begin 61 = .ok (.aload_n 0, 1) := by decide +kernel
theorem dX12_begin_62 : decode cX12_begin 62 = .ok (.iload_n 2, 1) := by decide +kernel
theorem dX12_begin_63 : decode cX12_begin 63 = .ok (.invokevirtual 208, 3) := by decide +kernel
theorem dX12_begin_66 : decode cX12_begin 66 = .ok (.iaload, 1) := by decide +kernel
theorem dX12_begin_67 : decode cX12_begin 67 = .ok (.istore_n 2, 1) := by decide +kernel
theorem dX12_begin_68 : decode cX12_begin 68 = .ok (.goto (-41), 3) := by decide +kernel
theorem dX12_begin_71 : decode cX12_begin 71 = .ok (.iload_n 2, 1) := by decide +kernel
theorem dX12_begin_72 : decode cX12_begin 72 = .ok (.bipush (-9), 2) := by decide +kernel
theorem dX12_begin_74 : decode cX12_begin 74 = .ok (.if_icmp .ne 9, 3) := by decide +kernel
theorem dX12_begin_77 : decode cX12_begin 77 = .ok (.aload_n 0, 1) := by decide +kernel
theorem dX12_begin_78 : decode cX12_begin 78 = .ok (.iconst 1, 1) := by decide +kernel
theorem dX12_begin_79 : decode cX12_begin 79 = .ok (.invokevirtual 233, 3) := by decide +kernel
theorem dX12_begin_82 : decode cX12_begin 82 = .ok (.ireturn, 1) := by decide +kernel
theorem dX12_begin_83 : decode cX12_begin 83 = .ok (.iconst 0, 1) := by decide +kernel
theorem dX12_begin_84 : decode cX12_begin 84 = .ok (.istore_n 3, 1) := by decide +kernel
theorem dX12_begin_85 : decode cX12_begin 85 = .ok (.iload_n 3, 1) := by decide +kernel
theorem dX12_begin_86 : decode cX12_begin 86 = .ok (.aload_n 0, 1) := by decide +kernel
theorem dX12_begin_87 : decode cX12_begin 87 = .ok (.getfield 177, 3) := by decide +kernel
theorem dX12_begin_90 : decode cX12_begin 90 = .ok (.if_icmp .ge 124, 3) := by decide +kernel
theorem dX12_begin_93 : decode cX12_begin 93 = .ok (.aload_n 0, 1) := by decide +kernel
theorem dX12_begin_94 : decode cX12_begin 94 = .ok (.iload_n 3, 1) := by decide +kernel
theorem dX12_begin_95 : decode cX12_begin 95 = .ok (.invokevirtual 208, 3) := by decide +kernel
theorem dX12_begin_98 : decode cX12_begin 98 = .ok (.istore 4, 2) := by decide +kernel
theorem dX12_begin_100 : decode cX12_begin 100 = .ok (.aload_n 0, 1) := by decide +kernel
theorem dX12_begin_101 : decode cX12_begin 101 = .ok (.getfield 50, 3) := by decide +kernel
theorem dX12_begin_104 : decode cX12_begin 104 = .ok (.iload_n 3, 1) := by decide +kernel
theorem dX12_begin_105 : decode cX12_begin 105 = .ok (.iload 4, 2) := by decide +kernel
theorem dX12_begin_107 : decode cX12_begin 107 = .ok (.bipush (-9), 2) := by decide +kernel
theorem dX12_begin_109 : decode cX12_begin 109 = .ok (.if_icmp .ne 8, 3) := by decide +kernel
theorem dX12_begin_112 : decode cX12_begin 112 = .ok (.bipush (-9), 2) := by decide +kernel
theorem dX12_begin_114 : decode cX12_begin 114 = .ok (.goto 10, 3) := by decide +kernel
theorem dX12_begin_117 : decode cX12_begin 117 = .ok (.aload_n 0, 1) := by decide +kernel
theorem dX12_begin_118 : decode cX12_begin 118 = .ok (.getfield 25, 3) := by decide +kernel
theorem dX12_begin_121 : decode cX12_begin 121 = .ok (.iload 4, 2) := by decide +kernel
theorem dX12_begin_123 : decode cX12_begin 123 = .ok (.iaload, 1) := by decide +kernel
theorem dX12_begin_124 : decode cX12_begin 124 = .ok (.iastore, 1) := by decide +kernel
theorem dX12_begin_125 : decode cX12_begin 125 = .ok (.aload_n 0, 1) := by decide +kernel
theorem dX12_begin_126 : decode cX12_begin 126 = .ok (.getfield 53, 3) := by decide +kernel
theorem dX12_begin_129 : decode cX12_begin 129 = .ok (.iload_n 3, 1) := by decide +kernel
theorem dX12_begin_130 : decode cX12_begin 130 = .ok (.iload 4, 2) := by decide +kernel
theorem dX12_begin_132 : decode cX12_begin 132 = .ok (.bipush (-9), 2) := by decide +kernel
theorem dX12_begin_134 : decode cX12_begin 134 = .ok (.if_icmp .ne 8, 3) := by decide +kernel
theorem dX12_begin_137 : decode cX12_begin 137 = .ok (.bipush (-9), 2) := by decide +kernel
theorem dX12_begin_139 : decode cX12_begin 139 = .ok (.goto 10, 3) := by decide +kernel
theorem dX12_begin_142 : decode cX12_begin 142 = .ok (.aload_n 0, 1) := by decide +kernel
theorem dX12_begin_143 : decode cX12_begin 143 = .ok (.getfield 31, 3) := by decide +kernel
theorem dX12_begin_146 : decode cX12_begin 146 = .ok (.iload 4, 2) := by decide +kernel
theorem dX12_begin_148 : decode cX12_begin 148 = .ok (.iaload, 1) := by decide +kernel
theorem dX12_begin_149 : decode cX12_begin 149 = .ok (.iastore, 1) := by decide +kernel
theorem dX12_begin_150 : decode cX12_begin 150 = .ok (.aload_n 0, 1) := by decide +kernel
theorem dX12_begin_151 : decode cX12_begin 151 = .ok (.getfield 56, 3) := by decide +kernel
theorem dX12_begin_154 : decode cX12_begin 154 = .ok (.iload_n 3, 1) := by decide +kernel
theorem dX12_begin_155 : decode cX12_begin 155 = .ok (.aload_n 0, 1) := by decide +kernel
theorem dX12_begin_156 : decode cX12_begin 156 = .ok (.iload_n 3, 1) := by decide +kernel
theorem dX12_begin_157 : decode cX12_begin 157 = .ok (.invokevirtual 191, 3) := by decide +kernel
theorem dX12_begin_160 : decode cX12_begin 160 = .ok (.ifCond .eq 17, 3) := by decide +kernel
theorem dX12_begin_163 : decode cX12_begin 163 = .ok (.aload_n 0, 1) := by decide +kernel
theorem dX12_begin_164 : decode cX12_begin 164 = .ok (.iload_n 3, 1) := by decide +kernel
theorem dX12_begin_165 : decode cX12_begin 165 = .ok (.iconst 0, 1) := by decide +kernel
theorem dX12_begin_166 : decode cX12_begin 166 = .ok (.invokevirtual 256, 3) := by decide +kernel
theorem dX12_begin_169 : decode cX12_begin 169 = .ok (.iconst 1, 1) := by decide +kernel
theorem dX12_begin_170 : decode cX12_begin 170 = .ok (.if_icmp .ne 7, 3) := by decide +kernel
theorem dX12_begin_173 : decode cX12_begin 173 = .ok (.iconst 1, 1) := by decide +kernel
theorem dX12_begin_174 : decode cX12_begin 174 = .ok (.goto 4, 3) := by decide +kernel
theorem dX12_begin_177 : decode cX12_begin 177 = .ok (.iconst 0, 1) := by decide +kernel
theorem dX12_begin_178 : decode cX12_begin 178 = .ok (.bastore, 1) := by decide +kernel
theorem dX12_begin_179 : decode cX12_begin 179 = .ok (.aload_n 0, 1) := by decide +kernel
theorem dX12_begin_180 : decode cX12_begin 180 = .ok (.getfield 59, 3) := by decide +kernel
theorem dX12_begin_183 : decode cX12_begin 183 = .ok (.iload_n 3, 1) := by decide +kernel
theorem dX12_begin_184 : decode cX12_begin 184 = .ok (.aload_n 0, 1) := by decide +kernel
theorem dX12_begin_185 : decode cX12_begin 185 = .ok (.iload_n 3, 1) := by decide +kernel
theorem dX12_begin_186 : decode cX12_begin 186 = .ok (.invokevirtual 191, 3) := by decide +kernel
theorem dX12_begin_189 : decode cX12_begin 189 = .ok (.ifCond .eq 17, 3) := by decide +kernel
theorem dX12_begin_192 : decode cX12_begin 192 = .ok (.aload_n 0, 1) := by decide +kernel
theorem dX12_begin_193 : decode cX12_begin 193 = .ok (.iload_n 3, 1) := by decide +kernel
theorem dX12_begin_194 : decode cX12_begin 194 = .ok (.iconst 1, 1) := by decide +kernel
theorem dX12_begin_195 : decode cX12_begin 195 = .ok (.invokevirtual 256, 3) := by decide +kernel
theorem dX12_begin_198 : decode cX12_begin 198 = .ok (.iconst 1, 1) := by decide +kernel
theorem dX12_begin_199 : decode cX12_begin 199 = .ok (.if_icmp .ne 7, 3) := by decide +kernel
theorem dX12_begin_202 : decode cX12_begin 202 = .ok (.iconst 1, 1) := by decide +kernel
theorem dX12_begin_203 : decode cX12_begin 203 = .ok (.goto 4, 3) := by decide +kernel
theorem dX12_begin_206 : decode cX12_begin 206 = .ok (.iconst 0, 1) := by decide +kernel
theorem dX12_begin_207 : decode cX12_begin 207 = .ok (.bastore, 1) := by decide +kernel
theorem dX12_begin_208 : decode cX12_begin 208 = .ok (.iinc 3 1, 3) := by decide +kernel
theorem dX12_begin_211 : decode cX12_begin 211 = .ok (.goto (-126), 3) := by decide +kernel
theorem dX12_begin_214 : decode cX12_begin 214 = .ok (.aload_n 0, 1) := by decide +kernel
theorem dX12_begin_215 : decode cX12_begin 215 = .ok (.iload_n 1, 1) := by decide +kernel
theorem dX12_begin_216 : decode cX12_begin 216 = .ok (.putfield 155, 3) := by decide +kernel
theorem dX12_begin_219 : decode cX12_begin 219 = .ok (.aload_n 0, 1) := by decide +kernel
theorem dX12_begin_220 : decode cX12_begin 220 = .ok (.iconst 0, 1) := by decide +kernel
theorem dX12_begin_221 : decode cX12_begin 221 = .ok (.putfield 291, 3) := by decide +kernel
theorem dX12_begin_224 : decode cX12_begin 224 = .ok (.iload_n 2, 1) := by decide +kernel
theorem dX12_begin_225 : decode cX12_begin 225 = .ok (.ireturn, 1) := by decide +kernel
theorem dX12_isUpFrom_0 : decode cX12_isUpFrom 0 = .ok (.iload_n 2, 1) := by decide +kernel
theorem dX12_isUpFrom_1 : decode cX12_isUpFrom 1 = .ok (.istore_n 3, 1) := by decide +kernel
theorem dX12_isUpFrom_2 : decode cX12_isUpFrom 2 = .ok (.aload_n 0, 1) := by decide +kernel
theorem dX12_isUpFrom_3 : decode cX12_isUpFrom 3 = .ok (.getfield 50, 3) := by decide +kernel
theorem dX12_isUpFrom_6 : decode cX12_isUpFrom 6 = .ok (.iload_n 3, 1) := by decide +kernel
theorem dX12_isUpFrom_7 : decode cX12_isUpFrom 7 = .ok (.iaload, 1) := by decide +kernel
theorem dX12_isUpFrom_8 : decode cX12_isUpFrom 8 = .ok (.bipush (-9), 2) := by decide +kernel
theorem dX12_isUpFrom_10 : decode cX12_isUpFrom 10 = .ok (.if_icmp .eq 17, 3) := by decide +kernel
theorem dX12_isUpFrom_13 : decode cX12_isUpFrom 13 = .ok (.aload_n 0, 1) := by decide +kernel
theorem dX12_isUpFrom_14 : decode cX12_isUpFrom 14 = .ok (.getfield 53, 3) := by decide +kernel
theorem dX12_isUpFrom_17 : decode cX12_isUpFrom 17 = .ok (.iload_n 3, 1) := by decide +kernel
theorem dX12_isUpFrom_18 : decode cX12_isUpFrom 18 = .ok (.iaload, 1) := by decide +kernel
theorem dX12_isUpFrom_19 : decode cX12_isUpFrom 19 = .ok (.istore_n 3, 1) := by decide +kernel
theorem dX12_isUpFrom_20 : decode cX12_isUpFrom 20 = .ok (.iload_n 3, 1) := by decide +kernel
theorem dX12_isUpFrom_21 : decode cX12_isUpFrom 21 = .ok (.iload_n 1, 1) := by decide +kernel
theorem dX12_isUpFrom_22 : decode cX12_isUpFrom 22 = .ok (.if_icmp .ne (-20), 3) := by decide +kernel
theorem dX12_isUpFrom_25 : decode cX12_isUpFrom 25 = .ok (.iconst 1, 1) := by decide +kernel
theorem dX12_isUpFrom_26 : decode cX12_isUpFrom 26 = .ok (.ireturn, 1) := by decide +kernel
theorem dX12_isUpFrom_27 : decode cX12_isUpFrom 27 = .ok (.iconst 0, 1) := by decide +kernel
theorem dX12_isUpFrom_28 : decode cX12_isUpFrom 28 = .ok (.ireturn, 1) := by decide +kernel
theorem dX12_holds_0 : decode cX12_holds 0 = .ok (.aload_n 0, 1) := by decide +kernel
theorem dX12_holds_1 : decode cX12_holds 1 = .ok (.getfield 50, 3) := by decide +kernel
theorem dX12_holds_4 : decode cX12_holds 4 = .ok (.iload_n 1, 1) := by decide +kernel
theorem dX12_holds_5 : decode cX12_holds 5 = .ok (.iaload, 1) := by decide +kernel
theorem dX12_holds_6 : decode cX12_holds 6 = .ok (.iconst 2, 1) := by decide +kernel
theorem dX12_holds_7 : decode cX12_holds 7 = .ok (.if_icmp .ne 20, 3) := by decide +kernel
theorem dX12_holds_10 : decode cX12_holds 10 = .ok (.aload_n 0, 1) := by decide +kernel
theorem dX12_holds_11 : decode cX12_holds 11 = .ok (.getfield 53, 3) := by decide +kernel
theorem dX12_holds_14 : decode cX12_holds 14 = .ok (.iload_n 1, 1) := by decide +kernel
theorem dX12_holds_15 : decode cX12_holds 15 = .ok (.iaload, 1) := by decide +kernel
theorem dX12_holds_16 : decode cX12_holds 16 = .ok (.aload_n 0, 1) := by decide +kernel
theorem dX12_holds_17 : decode cX12_holds 17 = .ok (.getfield 155, 3) := by decide +kernel
theorem dX12_holds_20 : decode cX12_holds 20 = .ok (.if_icmp .ne 7, 3) := by decide +kernel
theorem dX12_holds_23 : decode cX12_holds 23 = .ok (.iconst 1, 1) := by decide +kernel
theorem dX12_holds_24 : decode cX12_holds 24 = .ok (.goto 4, 3) := by decide +kernel
theorem dX12_holds_27 : decode cX12_holds 27 = .ok (.iconst 0, 1) := by decide +kernel
theorem dX12_holds_28 : decode cX12_holds 28 = .ok (.ireturn, 1) := by decide +kernel
theorem dX12_lying_0 : decode cX12_lying 0 = .ok (.iconst 0, 1) := by decide +kernel
theorem dX12_lying_1 : decode cX12_lying 1 = .ok (.istore_n 3, 1) := by decide +kernel
theorem dX12_lying_2 : decode cX12_lying 2 = .ok (.iconst 0, 1) := by decide +kernel
theorem dX12_lying_3 : decode cX12_lying 3 = .ok (.istore 4, 2) := by decide +kernel
theorem dX12_lying_5 : decode cX12_lying 5 = .ok (.iload 4, 2) := by decide +kernel
theorem dX12_lying_7 : decode cX12_lying 7 = .ok (.aload_n 0, 1) := by decide +kernel
theorem dX12_lying_8 : decode cX12_lying 8 = .ok (.getfield 177, 3) := by decide +kernel
theorem dX12_lying_11 : decode cX12_lying 11 = .ok (.if_icmp .ge 39, 3) := by decide +kernel
theorem dX12_lying_14 : decode cX12_lying 14 = .ok (.iload_n 3, 1) := by decide +kernel
theorem dX12_lying_15 : decode cX12_lying 15 = .ok (.aload_n 0, 1) := by decide +kernel
theorem dX12_lying_16 : decode cX12_lying 16 = .ok (.getfield 50, 3) := by decide +kernel
theorem dX12_lying_19 : decode cX12_lying 19 = .ok (.iload 4, 2) := by decide +kernel
theorem dX12_lying_21 : decode cX12_lying 21 = .ok (.iaload, 1) := by decide +kernel
theorem dX12_lying_22 : decode cX12_lying 22 = .ok (.iload_n 1, 1) := by decide +kernel
theorem dX12_lying_23 : decode cX12_lying 23 = .ok (.if_icmp .ne 18, 3) := by decide +kernel
theorem dX12_lying_26 : decode cX12_lying 26 = .ok (.aload_n 0, 1) := by decide +kernel
theorem dX12_lying_27 : decode cX12_lying 27 = .ok (.getfield 53, 3) := by decide +kernel
theorem dX12_lying_30 : decode cX12_lying 30 = .ok (.iload 4, 2) := by decide +kernel
theorem dX12_lying_32 : decode cX12_lying 32 = .ok (.iaload, 1) := by decide +kernel
theorem dX12_lying_33 : decode cX12_lying 33 = .ok (.iload_n 2, 1) := by decide +kernel
theorem dX12_lying_34 : decode cX12_lying 34 = .ok (.if_icmp .ne 7, 3) := by decide +kernel
theorem dX12_lying_37 : decode cX12_lying 37 = .ok (.iconst 1, 1) := by decide +kernel
theorem dX12_lying_38 : decode cX12_lying 38 = .ok (.goto 4, 3) := by decide +kernel
theorem dX12_lying_41 : decode cX12_lying 41 = .ok (.iconst 0, 1) := by decide +kernel
theorem dX12_lying_42 : decode cX12_lying 42 = .ok (.iadd, 1) := by decide +kernel
theorem dX12_lying_43 : decode cX12_lying 43 = .ok (.istore_n 3, 1) := by decide +kernel
theorem dX12_lying_44 : decode cX12_lying 44 = .ok (.iinc 4 1, 3) := by decide +kernel
theorem dX12_lying_47 : decode cX12_lying 47 = .ok (.goto (-42), 3) := by decide +kernel
theorem dX12_lying_50 : decode cX12_lying 50 = .ok (.iload_n 3, 1) := by decide +kernel
theorem dX12_lying_51 : decode cX12_lying 51 = .ok (.ireturn, 1) := by decide +kernel
theorem dX12_isInRoom_0 : decode cX12_isInRoom 0 = .ok (.aload_n 0, 1) := by decide +kernel
theorem dX12_isInRoom_1 : decode cX12_isInRoom 1 = .ok (.getfield 50, 3) := by decide +kernel
theorem dX12_isInRoom_4 : decode cX12_isInRoom 4 = .ok (.aload_n 0, 1) := by decide +kernel
theorem dX12_isInRoom_5 : decode cX12_isInRoom 5 = .ok (.getfield 155, 3) := by decide +kernel
theorem dX12_isInRoom_8 : decode cX12_isInRoom 8 = .ok (.iaload, 1) := by decide +kernel
theorem dX12_isInRoom_9 : decode cX12_isInRoom 9 = .ok (.ifCond .ne 24, 3) := by decide +kernel
theorem dX12_isInRoom_12 : decode cX12_isInRoom 12 = .ok (.aload_n 0, 1) := by decide +kernel
theorem dX12_isInRoom_13 : decode cX12_isInRoom 13 = .ok (.getfield 101, 3) := by decide +kernel
theorem dX12_isInRoom_16 : decode cX12_isInRoom 16 = .ok (.aload_n 0, 1) := by decide +kernel
theorem dX12_isInRoom_17 : decode cX12_isInRoom 17 = .ok (.getfield 53, 3) := by decide +kernel
theorem dX12_isInRoom_20 : decode cX12_isInRoom 20 = .ok (.aload_n 0, 1) := by decide +kernel
theorem dX12_isInRoom_21 : decode cX12_isInRoom 21 = .ok (.getfield 155, 3) := by decide +kernel
theorem dX12_isInRoom_24 : decode cX12_isInRoom 24 = .ok (.iaload, 1) := by decide +kernel
theorem dX12_isInRoom_25 : decode cX12_isInRoom 25 = .ok (.baload, 1) := by decide +kernel
theorem dX12_isInRoom_26 : decode cX12_isInRoom 26 = .ok (.ifCond .eq 7, 3) := by decide +kernel
theorem dX12_isInRoom_29 : decode cX12_isInRoom 29 = .ok (.iconst 1, 1) := by decide +kernel
theorem dX12_isInRoom_30 : decode cX12_isInRoom 30 = .ok (.goto 4, 3) := by decide +kernel
theorem dX12_isInRoom_33 : decode cX12_isInRoom 33 = .ok (.iconst 0, 1) := by decide +kernel
theorem dX12_isInRoom_34 : decode cX12_isInRoom 34 = .ok (.ireturn, 1) := by decide +kernel
theorem dX12_whyNotGo_0 : decode cX12_whyNotGo 0 = .ok (.aload_n 0, 1) := by decide +kernel
theorem dX12_whyNotGo_1 : decode cX12_whyNotGo 1 = .ok (.invokevirtual 348, 3) := by decide +kernel
theorem dX12_whyNotGo_4 : decode cX12_whyNotGo 4 = .ok (.ifCond .ne 5, 3) := by decide +kernel
theorem dX12_whyNotGo_7 : decode cX12_whyNotGo 7 = .ok (.iconst 1, 1) := by decide +kernel
theorem dX12_whyNotGo_8 : decode cX12_whyNotGo 8 = .ok (.ireturn, 1) := by decide +kernel
theorem dX12_whyNotGo_9 : decode cX12_whyNotGo 9 = .ok (.aload_n 0, 1) := by decide +kernel
theorem dX12_whyNotGo_10 : decode cX12_whyNotGo 10 = .ok (.aload_n 0, 1) := by decide +kernel
theorem dX12_whyNotGo_11 : decode cX12_whyNotGo 11 = .ok (.getfield 53, 3) := by decide +kernel
theorem dX12_whyNotGo_14 : decode cX12_whyNotGo 14 = .ok (.aload_n 0, 1) := by decide +kernel
theorem dX12_whyNotGo_15 : decode cX12_whyNotGo 15 = .ok (.getfield 155, 3) := by decide +kernel
theorem dX12_whyNotGo_18 : decode cX12_whyNotGo 18 = .ok (.iaload, 1) := by decide +kernel
theorem dX12_whyNotGo_19 : decode cX12_whyNotGo 19 = .ok (.iload_n 1, 1) := by decide +kernel
theorem dX12_whyNotGo_20 : decode cX12_whyNotGo 20 = .ok (.invokevirtual 281, 3) := by decide +kernel
theorem dX12_whyNotGo_23 : decode cX12_whyNotGo 23 = .ok (.ifCond .eq 12, 3) := by decide +kernel
theorem dX12_whyNotGo_26 : decode cX12_whyNotGo 26 = .ok (.aload_n 0, 1) := by decide +kernel
theorem dX12_whyNotGo_27 : decode cX12_whyNotGo 27 = .ok (.getfield 263, 3) := by decide +kernel
theorem dX12_whyNotGo_30 : decode cX12_whyNotGo 30 = .ok (.bipush (-9), 2) := by decide +kernel
theorem dX12_whyNotGo_32 : decode cX12_whyNotGo 32 = .ok (.if_icmp .ne 5, 3) := by decide +kernel
theorem dX12_whyNotGo_35 : decode cX12_whyNotGo 35 = .ok (.iconst 2, 1) := by decide +kernel
theorem dX12_whyNotGo_36 : decode cX12_whyNotGo 36 = .ok (.ireturn, 1) := by decide +kernel
theorem dX12_whyNotGo_37 : decode cX12_whyNotGo 37 = .ok (.aload_n 0, 1) := by decide +kernel
theorem dX12_whyNotGo_38 : decode cX12_whyNotGo 38 = .ok (.getfield 266, 3) := by decide +kernel
theorem dX12_whyNotGo_41 : decode cX12_whyNotGo 41 = .ok (.bipush (-9), 2) := by decide +kernel
theorem dX12_whyNotGo_43 : decode cX12_whyNotGo 43 = .ok (.if_icmp .eq 19, 3) := by decide +kernel
theorem dX12_whyNotGo_46 : decode cX12_whyNotGo 46 = .ok (.aload_n 0, 1) := by decide +kernel
theorem dX12_whyNotGo_47 : decode cX12_whyNotGo 47 = .ok (.getfield 56, 3) := by decide +kernel
theorem dX12_whyNotGo_50 : decode cX12_whyNotGo 50 = .ok (.aload_n 0, 1) := by decide +kernel
theorem dX12_whyNotGo_51 : decode cX12_whyNotGo 51 = .ok (.getfield 266, 3) := by decide +kernel
theorem dX12_whyNotGo_54 : decode cX12_whyNotGo 54 = .ok (.baload, 1) := by decide +kernel
theorem dX12_whyNotGo_55 : decode cX12_whyNotGo 55 = .ok (.ifCond .ne 7, 3) := by decide +kernel
theorem dX12_whyNotGo_58 : decode cX12_whyNotGo 58 = .ok (.iconst 3, 1) := by decide +kernel
theorem dX12_whyNotGo_59 : decode cX12_whyNotGo 59 = .ok (.goto 4, 3) := by decide +kernel
theorem dX12_whyNotGo_62 : decode cX12_whyNotGo 62 = .ok (.iconst 0, 1) := by decide +kernel
theorem dX12_whyNotGo_63 : decode cX12_whyNotGo 63 = .ok (.ireturn, 1) := by decide +kernel
theorem dX12_whyNotTake_0 : decode cX12_whyNotTake 0 = .ok (.aload_n 0, 1) := by decide +kernel
theorem dX12_whyNotTake_1 : decode cX12_whyNotTake 1 = .ok (.getfield 86, 3) := by decide +kernel
theorem dX12_whyNotTake_4 : decode cX12_whyNotTake 4 = .ok (.iload_n 1, 1) := by decide +kernel
theorem dX12_whyNotTake_5 : decode cX12_whyNotTake 5 = .ok (.baload, 1) := by decide +kernel
theorem dX12_whyNotTake_6 : decode cX12_whyNotTake 6 = .ok (.ifCond .ne 5, 3) := by decide +kernel
theorem dX12_whyNotTake_9 : decode cX12_whyNotTake 9 = .ok (.iconst 4, 1) := by decide +kernel
theorem dX12_whyNotTake_10 : decode cX12_whyNotTake 10 = .ok (.ireturn, 1) := by decide +kernel
theorem dX12_whyNotTake_11 : decode cX12_whyNotTake 11 = .ok (.iload_n 1, 1) := by decide +kernel
theorem dX12_whyNotTake_12 : decode cX12_whyNotTake 12 = .ok (.aload_n 0, 1) := by decide +kernel
theorem dX12_whyNotTake_13 : decode cX12_whyNotTake 13 = .ok (.getfield 155, 3) := by decide +kernel
theorem dX12_whyNotTake_16 : decode cX12_whyNotTake 16 = .ok (.if_icmp .eq 15, 3) := by decide +kernel
theorem dX12_whyNotTake_19 : decode cX12_whyNotTake 19 = .ok (.aload_n 0, 1) := by decide +kernel
theorem dX12_whyNotTake_20 : decode cX12_whyNotTake 20 = .ok (.iload_n 1, 1) := by decide +kernel
theorem dX12_whyNotTake_21 : decode cX12_whyNotTake 21 = .ok (.aload_n 0, 1) := by decide +kernel
theorem dX12_whyNotTake_22 : decode cX12_whyNotTake 22 = .ok (.getfield 155, 3) := by decide +kernel
theorem dX12_whyNotTake_25 : decode cX12_whyNotTake 25 = .ok (.invokevirtual 352, 3) := by decide +kernel
theorem dX12_whyNotTake_28 : decode cX12_whyNotTake 28 = .ok (.ifCond .eq 5, 3) := by decide +kernel
theorem dX12_whyNotTake_31 : decode cX12_whyNotTake 31 = .ok (.iconst 5, 1) := by decide +kernel
theorem dX12_whyNotTake_32 : decode cX12_whyNotTake 32 = .ok (.ireturn, 1) := by decide +kernel
theorem dX12_whyNotTake_33 : decode cX12_whyNotTake 33 = .ok (.aload_n 0, 1) := by decide +kernel
theorem dX12_whyNotTake_34 : decode cX12_whyNotTake 34 = .ok (.iload_n 1, 1) := by decide +kernel
theorem dX12_whyNotTake_35 : decode cX12_whyNotTake 35 = .ok (.invokevirtual 355, 3) := by decide +kernel
theorem dX12_whyNotTake_38 : decode cX12_whyNotTake 38 = .ok (.ifCond .eq 6, 3) := by decide +kernel
theorem dX12_whyNotTake_41 : decode cX12_whyNotTake 41 = .ok (.bipush 6, 2) := by decide +kernel
theorem dX12_whyNotTake_43 : decode cX12_whyNotTake 43 = .ok (.ireturn, 1) := by decide +kernel
theorem dX12_whyNotTake_44 : decode cX12_whyNotTake 44 = .ok (.aload_n 0, 1) := by decide +kernel
theorem dX12_whyNotTake_45 : decode cX12_whyNotTake 45 = .ok (.iload_n 1, 1) := by decide +kernel
theorem dX12_whyNotTake_46 : decode cX12_whyNotTake 46 = .ok (.invokevirtual 194, 3) := by decide +kernel
theorem dX12_whyNotTake_49 : decode cX12_whyNotTake 49 = .ok (.ifCond .eq 23, 3) := by decide +kernel
theorem dX12_whyNotTake_52 : decode cX12_whyNotTake 52 = .ok (.aload_n 0, 1) := by decide +kernel
theorem dX12_whyNotTake_53 : decode cX12_whyNotTake 53 = .ok (.iload_n 1, 1) := by decide +kernel
theorem dX12_whyNotTake_54 : decode cX12_whyNotTake 54 = .ok (.iconst 3, 1) := by decide +kernel
theorem dX12_whyNotTake_55 : decode cX12_whyNotTake 55 = .ok (.invokevirtual 256, 3) := by decide +kernel
theorem dX12_whyNotTake_58 : decode cX12_whyNotTake 58 = .ok (.iconst 1, 1) := by decide +kernel
theorem dX12_whyNotTake_59 : decode cX12_whyNotTake 59 = .ok (.if_icmp .eq 13, 3) := by decide +kernel
theorem dX12_whyNotTake_62 : decode cX12_whyNotTake 62 = .ok (.aload_n 0, 1) := by decide +kernel
theorem dX12_whyNotTake_63 : decode cX12_whyNotTake 63 = .ok (.getfield 50, 3) := by decide +kernel
theorem dX12_whyNotTake_66 : decode cX12_whyNotTake 66 = .ok (.iload_n 1, 1) := by decide +kernel
theorem dX12_whyNotTake_67 : decode cX12_whyNotTake 67 = .ok (.iaload, 1) := by decide +kernel
theorem dX12_whyNotTake_68 : decode cX12_whyNotTake 68 = .ok (.iconst 4, 1) := by decide +kernel
theorem dX12_whyNotTake_69 : decode cX12_whyNotTake 69 = .ok (.if_icmp .ne 6, 3) := by decide +kernel
theorem dX12_whyNotTake_72 : decode cX12_whyNotTake 72 = .ok (.bipush 7, 2) := by decide +kernel
theorem dX12_whyNotTake_74 : decode cX12_whyNotTake 74 = .ok (.ireturn, 1) := by decide +kernel
theorem dX12_whyNotTake_75 : decode cX12_whyNotTake 75 = .ok (.aload_n 0, 1) := by decide +kernel
theorem dX12_whyNotTake_76 : decode cX12_whyNotTake 76 = .ok (.getfield 89, 3) := by decide +kernel
theorem dX12_whyNotTake_79 : decode cX12_whyNotTake 79 = .ok (.iload_n 1, 1) := by decide +kernel
theorem dX12_whyNotTake_80 : decode cX12_whyNotTake 80 = .ok (.baload, 1) := by decide +kernel
theorem dX12_whyNotTake_81 : decode cX12_whyNotTake 81 = .ok (.ifCond .ne 6, 3) := by decide +kernel
theorem dX12_whyNotTake_84 : decode cX12_whyNotTake 84 = .ok (.bipush 8, 2) := by decide +kernel
theorem dX12_whyNotTake_86 : decode cX12_whyNotTake 86 = .ok (.ireturn, 1) := by decide +kernel
theorem dX12_whyNotTake_87 : decode cX12_whyNotTake 87 = .ok (.iload_n 1, 1) := by decide +kernel
theorem dX12_whyNotTake_88 : decode cX12_whyNotTake 88 = .ok (.istore_n 2, 1) := by decide +kernel
theorem dX12_whyNotTake_89 : decode cX12_whyNotTake 89 = .ok (.aload_n 0, 1) := by decide +kernel
theorem dX12_whyNotTake_90 : decode cX12_whyNotTake 90 = .ok (.getfield 50, 3) := by decide +kernel
theorem dX12_whyNotTake_93 : decode cX12_whyNotTake 93 = .ok (.iload_n 2, 1) := by decide +kernel
theorem dX12_whyNotTake_94 : decode cX12_whyNotTake 94 = .ok (.iaload, 1) := by decide +kernel
theorem dX12_whyNotTake_95 : decode cX12_whyNotTake 95 = .ok (.bipush (-9), 2) := by decide +kernel
theorem dX12_whyNotTake_97 : decode cX12_whyNotTake 97 = .ok (.if_icmp .eq 43, 3) := by decide +kernel
theorem dX12_whyNotTake_100 : decode cX12_whyNotTake 100 = .ok (.aload_n 0, 1) := by decide +kernel
theorem dX12_whyNotTake_101 : decode cX12_whyNotTake 101 = .ok (.aload_n 0, 1) := by decide +kernel
theorem dX12_whyNotTake_102 : decode cX12_whyNotTake 102 = .ok (.getfield 53, 3) := by decide +kernel
theorem dX12_whyNotTake_105 : decode cX12_whyNotTake 105 = .ok (.iload_n 2, 1) := by decide +kernel
theorem dX12_whyNotTake_106 : decode cX12_whyNotTake 106 = .ok (.iaload, 1) := by decide +kernel
theorem dX12_whyNotTake_107 : decode cX12_whyNotTake 107 = .ok (.iconst 5, 1) := by decide +kernel
theorem dX12_whyNotTake_108 : decode cX12_whyNotTake 108 = .ok (.invokevirtual 184, 3) := by decide +kernel
theorem dX12_whyNotTake_111 : decode cX12_whyNotTake 111 = .ok (.ifCond .eq 19, 3) := by decide +kernel
theorem dX12_whyNotTake_114 : decode cX12_whyNotTake 114 = .ok (.aload_n 0, 1) := by decide +kernel
theorem dX12_whyNotTake_115 : decode cX12_whyNotTake 115 = .ok (.getfield 53, 3) := by decide +kernel
theorem dX12_whyNotTake_118 : decode cX12_whyNotTake 118 = .ok (.iload_n 2, 1) := by decide +kernel
theorem dX12_whyNotTake_119 : decode cX12_whyNotTake 119 = .ok (.iaload, 1) := by decide +kernel
theorem dX12_whyNotTake_120 : decode cX12_whyNotTake 120 = .ok (.aload_n 0, 1) := by decide +kernel
theorem dX12_whyNotTake_121 : decode cX12_whyNotTake 121 = .ok (.getfield 155, 3) := by decide +kernel
theorem dX12_whyNotTake_124 : decode cX12_whyNotTake 124 = .ok (.if_icmp .eq 6, 3) := by decide +kernel
theorem dX12_whyNotTake_127 : decode cX12_whyNotTake 127 = .ok (.bipush 9, 2) := by decide +kernel
theorem dX12_whyNotTake_129 : decode cX12_whyNotTake 129 = .ok (.ireturn, 1) := by decide +kernel
theorem dX12_whyNotTake_130 : decode cX12_whyNotTake 130 = .ok (.aload_n 0, 1) := by decide +kernel
theorem dX12_whyNotTake_131 : decode cX12_whyNotTake 131 = .ok (.getfield 53, 3) := by decide +kernel
theorem dX12_whyNotTake_134 : decode cX12_whyNotTake 134 = .ok (.iload_n 2, 1) := by decide +kernel
theorem dX12_whyNotTake_135 : decode cX12_whyNotTake 135 = .ok (.iaload, 1) := by decide +kernel
theorem dX12_whyNotTake_136 : decode cX12_whyNotTake 136 = .ok (.istore_n 2, 1) := by decide +kernel
theorem dX12_whyNotTake_137 : decode cX12_whyNotTake 137 = .ok (.goto (-48), 3) := by decide +kernel
theorem dX12_whyNotTake_140 : decode cX12_whyNotTake 140 = .ok (.aload_n 0, 1) := by decide +kernel
theorem dX12_whyNotTake_141 : decode cX12_whyNotTake 141 = .ok (.iload_n 1, 1) := by decide +kernel
theorem dX12_whyNotTake_142 : decode cX12_whyNotTake 142 = .ok (.invokevirtual 315, 3) := by decide +kernel
theorem dX12_whyNotTake_145 : decode cX12_whyNotTake 145 = .ok (.istore_n 2, 1) := by decide +kernel
theorem dX12_whyNotTake_146 : decode cX12_whyNotTake 146 = .ok (.iconst 0, 1) := by decide +kernel
theorem dX12_whyNotTake_147 : decode cX12_whyNotTake 147 = .ok (.istore_n 3, 1) := by decide +kernel
theorem dX12_whyNotTake_148 : decode cX12_whyNotTake 148 = .ok (.iload_n 3, 1) := by decide +kernel
theorem dX12_whyNotTake_149 : decode cX12_whyNotTake 149 = .ok (.aload_n 0, 1) := by decide +kernel
theorem dX12_whyNotTake_150 : decode cX12_whyNotTake 150 = .ok (.getfield 177, 3) := by decide +kernel
theorem dX12_whyNotTake_153 : decode cX12_whyNotTake 153 = .ok (.if_icmp .ge 29, 3) := by decide +kernel
theorem dX12_whyNotTake_156 : decode cX12_whyNotTake 156 = .ok (.iload_n 2, 1) := by decide +kernel
theorem dX12_whyNotTake_157 : decode cX12_whyNotTake 157 = .ok (.aload_n 0, 1) := by decide +kernel
theorem dX12_whyNotTake_158 : decode cX12_whyNotTake 158 = .ok (.iload_n 3, 1) := by decide +kernel
theorem dX12_whyNotTake_159 : decode cX12_whyNotTake 159 = .ok (.invokevirtual 355, 3) := by decide +kernel
theorem dX12_whyNotTake_162 : decode cX12_whyNotTake 162 = .ok (.ifCond .eq 11, 3) := by decide +kernel
theorem dX12_whyNotTake_165 : decode cX12_whyNotTake 165 = .ok (.aload_n 0, 1) := by decide +kernel
theorem dX12_whyNotTake_166 : decode cX12_whyNotTake 166 = .ok (.iload_n 3, 1) := by decide +kernel
theorem dX12_whyNotTake_167 : decode cX12_whyNotTake 167 = .ok (.invokevirtual 315, 3) := by decide +kernel
theorem dX12_whyNotTake_170 : decode cX12_whyNotTake 170 = .ok (.goto 4, 3) := by decide +kernel
theorem dX12_whyNotTake_173 : decode cX12_whyNotTake 173 = .ok (.iconst 0, 1) := by decide +kernel
theorem dX12_whyNotTake_174 : decode cX12_whyNotTake 174 = .ok (.iadd, 1) := by decide +kernel
theorem dX12_whyNotTake_175 : decode cX12_whyNotTake 175 = .ok (.istore_n 2, 1) := by decide +kernel
theorem dX12_whyNotTake_176 : decode cX12_whyNotTake 176 = .ok (.iinc 3 1, 3) := by decide +kernel
theorem dX12_whyNotTake_179 : decode cX12_whyNotTake 179 = .ok (.goto (-31), 3) := by decide +kernel
theorem dX12_whyNotTake_182 : decode cX12_whyNotTake 182 = .ok (.iload_n 2, 1) := by decide +kernel
theorem dX12_whyNotTake_183 : decode cX12_whyNotTake 183 = .ok (.bipush 100, 2) := by decide +kernel
theorem dX12_whyNotTake_185 : decode cX12_whyNotTake 185 = .ok (.if_icmp .le 8, 3) := by decide +kernel
theorem dX12_whyNotTake_188 : decode cX12_whyNotTake 188 = .ok (.bipush 10, 2) := by decide +kernel
theorem dX12_whyNotTake_190 : decode cX12_whyNotTake 190 = .ok (.goto 4, 3) := by decide +kernel
theorem dX12_whyNotTake_193 : decode cX12_whyNotTake 193 = .ok (.iconst 0, 1) := by decide +kernel
theorem dX12_whyNotTake_194 : decode cX12_whyNotTake 194 = .ok (.ireturn, 1) := by decide +kernel
theorem dX12_whyNotPut_0 : decode cX12_whyNotPut 0 = .ok (.aload_n 0, 1) := by decide +kernel
theorem dX12_whyNotPut_1 : decode cX12_whyNotPut 1 = .ok (.iload_n 1, 1) := by decide +kernel
theorem dX12_whyNotPut_2 : decode cX12_whyNotPut 2 = .ok (.invokevirtual 355, 3) := by decide +kernel
theorem dX12_whyNotPut_5 : decode cX12_whyNotPut 5 = .ok (.ifCond .ne 6, 3) := by decide +kernel
theorem dX12_whyNotPut_8 : decode cX12_whyNotPut 8 = .ok (.bipush 11, 2) := by decide +kernel
theorem dX12_whyNotPut_10 : decode cX12_whyNotPut 10 = .ok (.ireturn, 1) := by decide +kernel
theorem dX12_whyNotPut_11 : decode cX12_whyNotPut 11 = .ok (.aload_n 0, 1) := by decide +kernel
theorem dX12_whyNotPut_12 : decode cX12_whyNotPut 12 = .ok (.getfield 86, 3) := by decide +kernel
theorem dX12_whyNotPut_15 : decode cX12_whyNotPut 15 = .ok (.iload_n 2, 1) := by decide +kernel
theorem dX12_whyNotPut_16 : decode cX12_whyNotPut 16 = .ok (.baload, 1) := by decide +kernel
theorem dX12_whyNotPut_17 : decode cX12_whyNotPut 17 = .ok (.ifCond .ne 5, 3) := by decide +kernel
theorem dX12_whyNotPut_20 : decode cX12_whyNotPut 20 = .ok (.iconst 4, 1) := by decide +kernel
theorem dX12_whyNotPut_21 : decode cX12_whyNotPut 21 = .ok (.ireturn, 1) := by decide +kernel
theorem dX12_whyNotPut_22 : decode cX12_whyNotPut 22 = .ok (.iload_n 3, 1) := by decide +kernel
theorem dX12_whyNotPut_23 : decode cX12_whyNotPut 23 = .ok (.ifCond .eq 15, 3) := by decide +kernel
theorem dX12_whyNotPut_26 : decode cX12_whyNotPut 26 = .ok (.aload_n 0, 1) := by decide +kernel
theorem dX12_whyNotPut_27 : decode cX12_whyNotPut 27 = .ok (.getfield 98, 3) := by decide +kernel
theorem dX12_whyNotPut_30 : decode cX12_whyNotPut 30 = .ok (.iload_n 2, 1) := by decide +kernel
theorem dX12_whyNotPut_31 : decode cX12_whyNotPut 31 = .ok (.baload, 1) := by decide +kernel
theorem dX12_whyNotPut_32 : decode cX12_whyNotPut 32 = .ok (.ifCond .ne 18, 3) := by decide +kernel
theorem dX12_whyNotPut_35 : decode cX12_whyNotPut 35 = .ok (.goto 12, 3) := by decide +kernel
theorem dX12_whyNotPut_38 : decode cX12_whyNotPut 38 = .ok (.aload_n 0, 1) := by decide +kernel
theorem dX12_whyNotPut_39 : decode cX12_whyNotPut 39 = .ok (.iload_n 2, 1) := by decide +kernel
theorem dX12_whyNotPut_40 : decode cX12_whyNotPut 40 = .ok (.iconst 4, 1) := by decide +kernel
theorem dX12_whyNotPut_41 : decode cX12_whyNotPut 41 = .ok (.invokevirtual 184, 3) := by decide +kernel
theorem dX12_whyNotPut_44 : decode cX12_whyNotPut 44 = .ok (.ifCond .ne 6, 3) := by decide +kernel
theorem dX12_whyNotPut_47 : decode cX12_whyNotPut 47 = .ok (.bipush 12, 2) := by decide +kernel
theorem dX12_whyNotPut_49 : decode cX12_whyNotPut 49 = .ok (.ireturn, 1) := by decide +kernel
theorem dX12_whyNotPut_50 : decode cX12_whyNotPut 50 = .ok (.iload_n 1, 1) := by decide +kernel
theorem dX12_whyNotPut_51 : decode cX12_whyNotPut 51 = .ok (.iload_n 2, 1) := by decide +kernel
theorem dX12_whyNotPut_52 : decode cX12_whyNotPut 52 = .ok (.if_icmp .eq 12, 3) := by decide +kernel
theorem dX12_whyNotPut_55 : decode cX12_whyNotPut 55 = .ok (.aload_n 0, 1) := by decide +kernel
theorem dX12_whyNotPut_56 : decode cX12_whyNotPut 56 = .ok (.iload_n 1, 1) := by decide +kernel
theorem dX12_whyNotPut_57 : decode cX12_whyNotPut 57 = .ok (.iload_n 2, 1) := by decide +kernel
theorem dX12_whyNotPut_58 : decode cX12_whyNotPut 58 = .ok (.invokevirtual 352, 3) := by decide +kernel
theorem dX12_whyNotPut_61 : decode cX12_whyNotPut 61 = .ok (.ifCond .eq 6, 3) := by decide +kernel
theorem dX12_whyNotPut_64 : decode cX12_whyNotPut 64 = .ok (.bipush 13, 2) := by decide +kernel
theorem dX12_whyNotPut_66 : decode cX12_whyNotPut 66 = .ok (.ireturn, 1) := by decide +kernel
theorem dX12_whyNotPut_67 : decode cX12_whyNotPut 67 = .ok (.iload_n 3, 1) := by decide +kernel
theorem dX12_whyNotPut_68 : decode cX12_whyNotPut 68 = .ok (.ifCond .eq 14, 3) := by decide +kernel
theorem dX12_whyNotPut_71 : decode cX12_whyNotPut 71 = .ok (.aload_n 0, 1) := by decide +kernel
theorem dX12_whyNotPut_72 : decode cX12_whyNotPut 72 = .ok (.getfield 56, 3) := by decide +kernel
theorem dX12_whyNotPut_75 : decode cX12_whyNotPut 75 = .ok (.iload_n 2, 1) := by decide +kernel
theorem dX12_whyNotPut_76 : decode cX12_whyNotPut 76 = .ok (.baload, 1) := by decide +kernel
theorem dX12_whyNotPut_77 : decode cX12_whyNotPut 77 = .ok (.ifCond .ne 5, 3) := by decide +kernel
theorem dX12_whyNotPut_80 : decode cX12_whyNotPut 80 = .ok (.iconst 3, 1) := by decide +kernel
theorem dX12_whyNotPut_81 : decode cX12_whyNotPut 81 = .ok (.ireturn, 1) := by decide +kernel
theorem dX12_whyNotPut_82 : decode cX12_whyNotPut 82 = .ok (.aload_n 0, 1) := by decide +kernel
theorem dX12_whyNotPut_83 : decode cX12_whyNotPut 83 = .ok (.getfield 89, 3) := by decide +kernel
theorem dX12_whyNotPut_86 : decode cX12_whyNotPut 86 = .ok (.iload_n 2, 1) := by decide +kernel
theorem dX12_whyNotPut_87 : decode cX12_whyNotPut 87 = .ok (.baload, 1) := by decide +kernel
theorem dX12_whyNotPut_88 : decode cX12_whyNotPut 88 = .ok (.ifCond .ne 6, 3) := by decide +kernel
theorem dX12_whyNotPut_91 : decode cX12_whyNotPut 91 = .ok (.bipush 8, 2) := by decide +kernel
theorem dX12_whyNotPut_93 : decode cX12_whyNotPut 93 = .ok (.ireturn, 1) := by decide +kernel
theorem dX12_whyNotPut_94 : decode cX12_whyNotPut 94 = .ok (.aload_n 0, 1) := by decide +kernel
theorem dX12_whyNotPut_95 : decode cX12_whyNotPut 95 = .ok (.iload_n 3, 1) := by decide +kernel
theorem dX12_whyNotPut_96 : decode cX12_whyNotPut 96 = .ok (.ifCond .eq 7, 3) := by decide +kernel
theorem dX12_whyNotPut_99 : decode cX12_whyNotPut 99 = .ok (.iconst 0, 1) := by decide +kernel
theorem dX12_whyNotPut_100 : decode cX12_whyNotPut 100 = .ok (.goto 4, 3) := by decide +kernel
theorem dX12_whyNotPut_103 : decode cX12_whyNotPut 103 = .ok (.iconst 1, 1) := by decide +kernel
theorem dX12_whyNotPut_104 : decode cX12_whyNotPut 104 = .ok (.iload_n 2, 1) := by decide +kernel
theorem dX12_whyNotPut_105 : decode cX12_whyNotPut 105 = .ok (.invokevirtual 358, 3) := by decide +kernel
theorem dX12_whyNotPut_108 : decode cX12_whyNotPut 108 = .ok (.bipush 8, 2) := by decide +kernel
theorem dX12_whyNotPut_110 : decode cX12_whyNotPut 110 = .ok (.if_icmp .lt 8, 3) := by decide +kernel
theorem dX12_whyNotPut_113 : decode cX12_whyNotPut 113 = .ok (.bipush 14, 2) := by decide +kernel
theorem dX12_whyNotPut_115 : decode cX12_whyNotPut 115 = .ok (.goto 4, 3) := by decide +kernel
theorem dX12_whyNotPut_118 : decode cX12_whyNotPut 118 = .ok (.iconst 0, 1) := by decide +kernel
theorem dX12_whyNotPut_119 : decode cX12_whyNotPut 119 = .ok (.ireturn, 1) := by decide +kernel
theorem dX12_whyNotTurn_0 : decode cX12_whyNotTurn 0 = .ok (.aload_n 0, 1) := by decide +kernel
theorem dX12_whyNotTurn_1 : decode cX12_whyNotTurn 1 = .ok (.getfield 86, 3) := by decide +kernel
theorem dX12_whyNotTurn_4 : decode cX12_whyNotTurn 4 = .ok (.iload_n 2, 1) := by decide +kernel
theorem dX12_whyNotTurn_5 : decode cX12_whyNotTurn 5 = .ok (.baload, 1) := by decide +kernel
theorem dX12_whyNotTurn_6 : decode cX12_whyNotTurn 6 = .ok (.ifCond .ne 5, 3) := by decide +kernel
theorem dX12_whyNotTurn_9 : decode cX12_whyNotTurn 9 = .ok (.iconst 4, 1) := by decide +kernel
theorem dX12_whyNotTurn_10 : decode cX12_whyNotTurn 10 = .ok (.ireturn, 1) := by decide +kernel
theorem dX12_whyNotTurn_11 : decode cX12_whyNotTurn 11 = .ok (.aload_n 0, 1) := by decide +kernel
theorem dX12_whyNotTurn_12 : decode cX12_whyNotTurn 12 = .ok (.iload_n 2, 1) := by decide +kernel
theorem dX12_whyNotTurn_13 : decode cX12_whyNotTurn 13 = .ok (.invokevirtual 191, 3) := by decide +kernel
theorem dX12_whyNotTurn_16 : decode cX12_whyNotTurn 16 = .ok (.ifCond .ne 6, 3) := by decide +kernel
theorem dX12_whyNotTurn_19 : decode cX12_whyNotTurn 19 = .ok (.bipush 12, 2) := by decide +kernel
theorem dX12_whyNotTurn_21 : decode cX12_whyNotTurn 21 = .ok (.ireturn, 1) := by decide +kernel
theorem dX12_whyNotTurn_22 : decode cX12_whyNotTurn 22 = .ok (.iload_n 1, 1) := by decide +kernel
theorem dX12_whyNotTurn_23 : decode cX12_whyNotTurn 23 = .ok (.iconst 5, 1) := by decide +kernel
theorem dX12_whyNotTurn_24 : decode cX12_whyNotTurn 24 = .ok (.if_icmp .ne 15, 3) := by decide +kernel
theorem dX12_whyNotTurn_27 : decode cX12_whyNotTurn 27 = .ok (.aload_n 0, 1) := by decide +kernel
theorem dX12_whyNotTurn_28 : decode cX12_whyNotTurn 28 = .ok (.getfield 56, 3) := by decide +kernel
theorem dX12_whyNotTurn_31 : decode cX12_whyNotTurn 31 = .ok (.iload_n 2, 1) := by decide +kernel
theorem dX12_whyNotTurn_32 : decode cX12_whyNotTurn 32 = .ok (.baload, 1) := by decide +kernel
theorem dX12_whyNotTurn_33 : decode cX12_whyNotTurn 33 = .ok (.ifCond .eq 6, 3) := by decide +kernel
theorem dX12_whyNotTurn_36 : decode cX12_whyNotTurn 36 = .ok (.bipush 15, 2) := by decide +kernel
theorem dX12_whyNotTurn_38 : decode cX12_whyNotTurn 38 = .ok (.ireturn, 1) := by decide +kernel
theorem dX12_whyNotTurn_39 : decode cX12_whyNotTurn 39 = .ok (.iload_n 1, 1) := by decide +kernel
theorem dX12_whyNotTurn_40 : decode cX12_whyNotTurn 40 = .ok (.bipush 6, 2) := by decide +kernel
theorem dX12_whyNotTurn_42 : decode cX12_whyNotTurn 42 = .ok (.if_icmp .ne 14, 3) := by decide +kernel
theorem dX12_whyNotTurn_45 : decode cX12_whyNotTurn 45 = .ok (.aload_n 0, 1) := by decide +kernel
theorem dX12_whyNotTurn_46 : decode cX12_whyNotTurn 46 = .ok (.getfield 56, 3) := by decide +kernel
theorem dX12_whyNotTurn_49 : decode cX12_whyNotTurn 49 = .ok (.iload_n 2, 1) := by decide +kernel
theorem dX12_whyNotTurn_50 : decode cX12_whyNotTurn 50 = .ok (.baload, 1) := by decide +kernel
theorem dX12_whyNotTurn_51 : decode cX12_whyNotTurn 51 = .ok (.ifCond .ne 5, 3) := by decide +kernel
theorem dX12_whyNotTurn_54 : decode cX12_whyNotTurn 54 = .ok (.iconst 3, 1) := by decide +kernel
theorem dX12_whyNotTurn_55 : decode cX12_whyNotTurn 55 = .ok (.ireturn, 1) := by decide +kernel
theorem dX12_whyNotTurn_56 : decode cX12_whyNotTurn 56 = .ok (.iload_n 1, 1) := by decide +kernel
theorem dX12_whyNotTurn_57 : decode cX12_whyNotTurn 57 = .ok (.bipush 7, 2) := by decide +kernel
theorem dX12_whyNotTurn_59 : decode cX12_whyNotTurn 59 = .ok (.if_icmp .ne 15, 3) := by decide +kernel
theorem dX12_whyNotTurn_62 : decode cX12_whyNotTurn 62 = .ok (.aload_n 0, 1) := by decide +kernel
theorem dX12_whyNotTurn_63 : decode cX12_whyNotTurn 63 = .ok (.getfield 59, 3) := by decide +kernel
theorem dX12_whyNotTurn_66 : decode cX12_whyNotTurn 66 = .ok (.iload_n 2, 1) := by decide +kernel
theorem dX12_whyNotTurn_67 : decode cX12_whyNotTurn 67 = .ok (.baload, 1) := by decide +kernel
theorem dX12_whyNotTurn_68 : decode cX12_whyNotTurn 68 = .ok (.ifCond .ne 6, 3) := by decide +kernel
theorem dX12_whyNotTurn_71 : decode cX12_whyNotTurn 71 = .ok (.bipush 17, 2) := by decide +kernel
theorem dX12_whyNotTurn_73 : decode cX12_whyNotTurn 73 = .ok (.ireturn, 1) := by decide +kernel
theorem dX12_whyNotTurn_74 : decode cX12_whyNotTurn 74 = .ok (.iload_n 1, 1) := by decide +kernel
theorem dX12_whyNotTurn_75 : decode cX12_whyNotTurn 75 = .ok (.iconst 5, 1) := by decide +kernel
theorem dX12_whyNotTurn_76 : decode cX12_whyNotTurn 76 = .ok (.if_icmp .eq 9, 3) := by decide +kernel
theorem dX12_whyNotTurn_79 : decode cX12_whyNotTurn 79 = .ok (.iload_n 1, 1) := by decide +kernel
theorem dX12_whyNotTurn_80 : decode cX12_whyNotTurn 80 = .ok (.bipush 8, 2) := by decide +kernel
theorem dX12_whyNotTurn_82 : decode cX12_whyNotTurn 82 = .ok (.if_icmp .ne 15, 3) := by decide +kernel
theorem dX12_whyNotTurn_85 : decode cX12_whyNotTurn 85 = .ok (.aload_n 0, 1) := by decide +kernel
theorem dX12_whyNotTurn_86 : decode cX12_whyNotTurn 86 = .ok (.getfield 59, 3) := by decide +kernel
theorem dX12_whyNotTurn_89 : decode cX12_whyNotTurn 89 = .ok (.iload_n 2, 1) := by decide +kernel
theorem dX12_whyNotTurn_90 : decode cX12_whyNotTurn 90 = .ok (.baload, 1) := by decide +kernel
theorem dX12_whyNotTurn_91 : decode cX12_whyNotTurn 91 = .ok (.ifCond .eq 6, 3) := by decide +kernel
theorem dX12_whyNotTurn_94 : decode cX12_whyNotTurn 94 = .ok (.bipush 16, 2) := by decide +kernel
theorem dX12_whyNotTurn_96 : decode cX12_whyNotTurn 96 = .ok (.ireturn, 1) := by decide +kernel
theorem dX12_whyNotTurn_97 : decode cX12_whyNotTurn 97 = .ok (.iload_n 1, 1) := by decide +kernel
theorem dX12_whyNotTurn_98 : decode cX12_whyNotTurn 98 = .ok (.bipush 8, 2) := by decide +kernel
theorem dX12_whyNotTurn_100 : decode cX12_whyNotTurn 100 = .ok (.if_icmp .ne 15, 3) := by decide +kernel
theorem dX12_whyNotTurn_103 : decode cX12_whyNotTurn 103 = .ok (.aload_n 0, 1) := by decide +kernel
theorem dX12_whyNotTurn_104 : decode cX12_whyNotTurn 104 = .ok (.getfield 56, 3) := by decide +kernel
theorem dX12_whyNotTurn_107 : decode cX12_whyNotTurn 107 = .ok (.iload_n 2, 1) := by decide +kernel
theorem dX12_whyNotTurn_108 : decode cX12_whyNotTurn 108 = .ok (.baload, 1) := by decide +kernel
theorem dX12_whyNotTurn_109 : decode cX12_whyNotTurn 109 = .ok (.ifCond .eq 6, 3) := by decide +kernel
theorem dX12_whyNotTurn_112 : decode cX12_whyNotTurn 112 = .ok (.bipush 15, 2) := by decide +kernel
theorem dX12_whyNotTurn_114 : decode cX12_whyNotTurn 114 = .ok (.ireturn, 1) := by decide +kernel
theorem dX12_whyNotTurn_115 : decode cX12_whyNotTurn 115 = .ok (.aload_n 0, 1) := by decide +kernel
theorem dX12_whyNotTurn_116 : decode cX12_whyNotTurn 116 = .ok (.getfield 89, 3) := by decide +kernel
theorem dX12_whyNotTurn_119 : decode cX12_whyNotTurn 119 = .ok (.iload_n 2, 1) := by decide +kernel
theorem dX12_whyNotTurn_120 : decode cX12_whyNotTurn 120 = .ok (.baload, 1) := by decide +kernel
theorem dX12_whyNotTurn_121 : decode cX12_whyNotTurn 121 = .ok (.ifCond .ne 6, 3) := by decide +kernel
theorem dX12_whyNotTurn_124 : decode cX12_whyNotTurn 124 = .ok (.bipush 8, 2) := by decide +kernel
theorem dX12_whyNotTurn_126 : decode cX12_whyNotTurn 126 = .ok (.ireturn, 1) := by decide +kernel
theorem dX12_whyNotTurn_127 : decode cX12_whyNotTurn 127 = .ok (.iload_n 1, 1) := by decide +kernel
theorem dX12_whyNotTurn_128 : decode cX12_whyNotTurn 128 = .ok (.bipush 6, 2) := by decide +kernel
theorem dX12_whyNotTurn_130 : decode cX12_whyNotTurn 130 = .ok (.if_icmp .le 14, 3) := by decide +kernel
theorem dX12_whyNotTurn_133 : decode cX12_whyNotTurn 133 = .ok (.aload_n 0, 1) := by decide +kernel
theorem dX12_whyNotTurn_134 : decode cX12_whyNotTurn 134 = .ok (.iload_n 3, 1) := by decide +kernel
theorem dX12_whyNotTurn_135 : decode cX12_whyNotTurn 135 = .ok (.invokevirtual 355, 3) := by decide +kernel
theorem dX12_whyNotTurn_138 : decode cX12_whyNotTurn 138 = .ok (.ifCond .ne 6, 3) := by decide +kernel
theorem dX12_whyNotTurn_141 : decode cX12_whyNotTurn 141 = .ok (.bipush 11, 2) := by decide +kernel
theorem dX12_whyNotTurn_143 : decode cX12_whyNotTurn 143 = .ok (.ireturn, 1) := by decide +kernel
theorem dX12_whyNotTurn_144 : decode cX12_whyNotTurn 144 = .ok (.iload_n 1, 1) := by decide +kernel
theorem dX12_whyNotTurn_145 : decode cX12_whyNotTurn 145 = .ok (.bipush 6, 2) := by decide +kernel
theorem dX12_whyNotTurn_147 : decode cX12_whyNotTurn 147 = .ok (.if_icmp .le 17, 3) := by decide +kernel
theorem dX12_whyNotTurn_150 : decode cX12_whyNotTurn 150 = .ok (.aload_n 0, 1) := by decide +kernel
theorem dX12_whyNotTurn_151 : decode cX12_whyNotTurn 151 = .ok (.iload_n 2, 1) := by decide +kernel
theorem dX12_whyNotTurn_152 : decode cX12_whyNotTurn 152 = .ok (.invokevirtual 260, 3) := by decide +kernel
theorem dX12_whyNotTurn_155 : decode cX12_whyNotTurn 155 = .ok (.iload_n 3, 1) := by decide +kernel
theorem dX12_whyNotTurn_156 : decode cX12_whyNotTurn 156 = .ok (.if_icmp .eq 8, 3) := by decide +kernel
theorem dX12_whyNotTurn_159 : decode cX12_whyNotTurn 159 = .ok (.bipush 18, 2) := by decide +kernel
theorem dX12_whyNotTurn_161 : decode cX12_whyNotTurn 161 = .ok (.goto 4, 3) := by decide +kernel
theorem dX12_whyNotTurn_164 : decode cX12_whyNotTurn 164 = .ok (.iconst 0, 1) := by decide +kernel
theorem dX12_whyNotTurn_165 : decode cX12_whyNotTurn 165 = .ok (.ireturn, 1) := by decide +kernel
theorem dX12_whyNotEnter_0 : decode cX12_whyNotEnter 0 = .ok (.aload_n 0, 1) := by decide +kernel
theorem dX12_whyNotEnter_1 : decode cX12_whyNotEnter 1 = .ok (.getfield 86, 3) := by decide +kernel
theorem dX12_whyNotEnter_4 : decode cX12_whyNotEnter 4 = .ok (.iload_n 1, 1) := by decide +kernel
theorem dX12_whyNotEnter_5 : decode cX12_whyNotEnter 5 = .ok (.baload, 1) := by decide +kernel
theorem dX12_whyNotEnter_6 : decode cX12_whyNotEnter 6 = .ok (.ifCond .ne 5, 3) := by decide +kernel
theorem dX12_whyNotEnter_9 : decode cX12_whyNotEnter 9 = .ok (.iconst 4, 1) := by decide +kernel
theorem dX12_whyNotEnter_10 : decode cX12_whyNotEnter 10 = .ok (.ireturn, 1) := by decide +kernel
theorem dX12_whyNotEnter_11 : decode cX12_whyNotEnter 11 = .ok (.aload_n 0, 1) := by decide +kernel
theorem dX12_whyNotEnter_12 : decode cX12_whyNotEnter 12 = .ok (.getfield 98, 3) := by decide +kernel
theorem dX12_whyNotEnter_15 : decode cX12_whyNotEnter 15 = .ok (.iload_n 1, 1) := by decide +kernel
theorem dX12_whyNotEnter_16 : decode cX12_whyNotEnter 16 = .ok (.baload, 1) := by decide +kernel
theorem dX12_whyNotEnter_17 : decode cX12_whyNotEnter 17 = .ok (.ifCond .ne 15, 3) := by decide +kernel
theorem dX12_whyNotEnter_20 : decode cX12_whyNotEnter 20 = .ok (.aload_n 0, 1) := by decide +kernel
theorem dX12_whyNotEnter_21 : decode cX12_whyNotEnter 21 = .ok (.iload_n 1, 1) := by decide +kernel
theorem dX12_whyNotEnter_22 : decode cX12_whyNotEnter 22 = .ok (.iconst 4, 1) := by decide +kernel
theorem dX12_whyNotEnter_23 : decode cX12_whyNotEnter 23 = .ok (.invokevirtual 184, 3) := by decide +kernel
theorem dX12_whyNotEnter_26 : decode cX12_whyNotEnter 26 = .ok (.ifCond .ne 6, 3) := by decide +kernel
theorem dX12_whyNotEnter_29 : decode cX12_whyNotEnter 29 = .ok (.bipush 12, 2) := by decide +kernel
theorem dX12_whyNotEnter_31 : decode cX12_whyNotEnter 31 = .ok (.ireturn, 1) := by decide +kernel
theorem dX12_whyNotEnter_32 : decode cX12_whyNotEnter 32 = .ok (.aload_n 0, 1) := by decide +kernel
theorem dX12_whyNotEnter_33 : decode cX12_whyNotEnter 33 = .ok (.aload_n 0, 1) := by decide +kernel
theorem dX12_whyNotEnter_34 : decode cX12_whyNotEnter 34 = .ok (.getfield 155, 3) := by decide +kernel
theorem dX12_whyNotEnter_37 : decode cX12_whyNotEnter 37 = .ok (.iload_n 1, 1) := by decide +kernel
theorem dX12_whyNotEnter_38 : decode cX12_whyNotEnter 38 = .ok (.invokevirtual 352, 3) := by decide +kernel
theorem dX12_whyNotEnter_41 : decode cX12_whyNotEnter 41 = .ok (.ifCond .eq 6, 3) := by decide +kernel
theorem dX12_whyNotEnter_44 : decode cX12_whyNotEnter 44 = .ok (.bipush 13, 2) := by decide +kernel
theorem dX12_whyNotEnter_46 : decode cX12_whyNotEnter 46 = .ok (.ireturn, 1) := by decide +kernel
theorem dX12_whyNotEnter_47 : decode cX12_whyNotEnter 47 = .ok (.aload_n 0, 1) := by decide +kernel
theorem dX12_whyNotEnter_48 : decode cX12_whyNotEnter 48 = .ok (.getfield 98, 3) := by decide +kernel
theorem dX12_whyNotEnter_51 : decode cX12_whyNotEnter 51 = .ok (.iload_n 1, 1) := by decide +kernel
theorem dX12_whyNotEnter_52 : decode cX12_whyNotEnter 52 = .ok (.baload, 1) := by decide +kernel
theorem dX12_whyNotEnter_53 : decode cX12_whyNotEnter 53 = .ok (.ifCond .eq 14, 3) := by decide +kernel
theorem dX12_whyNotEnter_56 : decode cX12_whyNotEnter 56 = .ok (.aload_n 0, 1) := by decide +kernel
theorem dX12_whyNotEnter_57 : decode cX12_whyNotEnter 57 = .ok (.getfield 56, 3) := by decide +kernel
theorem dX12_whyNotEnter_60 : decode cX12_whyNotEnter 60 = .ok (.iload_n 1, 1) := by decide +kernel
theorem dX12_whyNotEnter_61 : decode cX12_whyNotEnter 61 = .ok (.baload, 1) := by decide +kernel
theorem dX12_whyNotEnter_62 : decode cX12_whyNotEnter 62 = .ok (.ifCond .ne 5, 3) := by decide +kernel
theorem dX12_whyNotEnter_65 : decode cX12_whyNotEnter 65 = .ok (.iconst 3, 1) := by decide +kernel
theorem dX12_whyNotEnter_66 : decode cX12_whyNotEnter 66 = .ok (.ireturn, 1) := by decide +kernel
theorem dX12_whyNotEnter_67 : decode cX12_whyNotEnter 67 = .ok (.aload_n 0, 1) := by decide +kernel
theorem dX12_whyNotEnter_68 : decode cX12_whyNotEnter 68 = .ok (.getfield 89, 3) := by decide +kernel
theorem dX12_whyNotEnter_71 : decode cX12_whyNotEnter 71 = .ok (.iload_n 1, 1) := by decide +kernel
theorem dX12_whyNotEnter_72 : decode cX12_whyNotEnter 72 = .ok (.baload, 1) := by decide +kernel
theorem dX12_whyNotEnter_73 : decode cX12_whyNotEnter 73 = .ok (.ifCond .ne 6, 3) := by decide +kernel
theorem dX12_whyNotEnter_76 : decode cX12_whyNotEnter 76 = .ok (.bipush 8, 2) := by decide +kernel
theorem dX12_whyNotEnter_78 : decode cX12_whyNotEnter 78 = .ok (.ireturn, 1) := by decide +kernel
theorem dX12_whyNotEnter_79 : decode cX12_whyNotEnter 79 = .ok (.aload_n 0, 1) := by decide +kernel
theorem dX12_whyNotEnter_80 : decode cX12_whyNotEnter 80 = .ok (.getfield 53, 3) := by decide +kernel
theorem dX12_whyNotEnter_83 : decode cX12_whyNotEnter 83 = .ok (.aload_n 0, 1) := by decide +kernel
theorem dX12_whyNotEnter_84 : decode cX12_whyNotEnter 84 = .ok (.getfield 155, 3) := by decide +kernel
theorem dX12_whyNotEnter_87 : decode cX12_whyNotEnter 87 = .ok (.iaload, 1) := by decide +kernel
theorem dX12_whyNotEnter_88 : decode cX12_whyNotEnter 88 = .ok (.iload_n 1, 1) := by decide +kernel
theorem dX12_whyNotEnter_89 : decode cX12_whyNotEnter 89 = .ok (.if_icmp .ne 8, 3) := by decide +kernel
theorem dX12_whyNotEnter_92 : decode cX12_whyNotEnter 92 = .ok (.bipush 20, 2) := by decide +kernel
theorem dX12_whyNotEnter_94 : decode cX12_whyNotEnter 94 = .ok (.goto 4, 3) := by decide +kernel
theorem dX12_whyNotEnter_97 : decode cX12_whyNotEnter 97 = .ok (.iconst 0, 1) := by decide +kernel
theorem dX12_whyNotEnter_98 : decode cX12_whyNotEnter 98 = .ok (.ireturn, 1) := by decide +kernel
theorem dX12_whyNotLeave_0 : decode cX12_whyNotLeave 0 = .ok (.aload_n 0, 1) := by decide +kernel
theorem dX12_whyNotLeave_1 : decode cX12_whyNotLeave 1 = .ok (.invokevirtual 348, 3) := by decide +kernel
theorem dX12_whyNotLeave_4 : decode cX12_whyNotLeave 4 = .ok (.ifCond .eq 5, 3) := by decide +kernel
theorem dX12_whyNotLeave_7 : decode cX12_whyNotLeave 7 = .ok (.iconst 1, 1) := by decide +kernel
theorem dX12_whyNotLeave_8 : decode cX12_whyNotLeave 8 = .ok (.ireturn, 1) := by decide +kernel
theorem dX12_whyNotLeave_9 : decode cX12_whyNotLeave 9 = .ok (.aload_n 0, 1) := by decide +kernel
theorem dX12_whyNotLeave_10 : decode cX12_whyNotLeave 10 = .ok (.getfield 53, 3) := by decide +kernel
theorem dX12_whyNotLeave_13 : decode cX12_whyNotLeave 13 = .ok (.aload_n 0, 1) := by decide +kernel
theorem dX12_whyNotLeave_14 : decode cX12_whyNotLeave 14 = .ok (.getfield 155, 3) := by decide +kernel
theorem dX12_whyNotLeave_17 : decode cX12_whyNotLeave 17 = .ok (.iaload, 1) := by decide +kernel
theorem dX12_whyNotLeave_18 : decode cX12_whyNotLeave 18 = .ok (.istore_n 1, 1) := by decide +kernel
theorem dX12_whyNotLeave_19 : decode cX12_whyNotLeave 19 = .ok (.aload_n 0, 1) := by decide +kernel
theorem dX12_whyNotLeave_20 : decode cX12_whyNotLeave 20 = .ok (.getfield 50, 3) := by decide +kernel
theorem dX12_whyNotLeave_23 : decode cX12_whyNotLeave 23 = .ok (.aload_n 0, 1) := by decide +kernel
theorem dX12_whyNotLeave_24 : decode cX12_whyNotLeave 24 = .ok (.getfield 155, 3) := by decide +kernel
theorem dX12_whyNotLeave_27 : decode cX12_whyNotLeave 27 = .ok (.iaload, 1) := by decide +kernel
theorem dX12_whyNotLeave_28 : decode cX12_whyNotLeave 28 = .ok (.ifCond .ne 23, 3) := by decide +kernel
theorem dX12_whyNotLeave_31 : decode cX12_whyNotLeave 31 = .ok (.aload_n 0, 1) := by decide +kernel
theorem dX12_whyNotLeave_32 : decode cX12_whyNotLeave 32 = .ok (.getfield 98, 3) := by decide +kernel
theorem dX12_whyNotLeave_35 : decode cX12_whyNotLeave 35 = .ok (.iload_n 1, 1) := by decide +kernel
theorem dX12_whyNotLeave_36 : decode cX12_whyNotLeave 36 = .ok (.baload, 1) := by decide +kernel
theorem dX12_whyNotLeave_37 : decode cX12_whyNotLeave 37 = .ok (.ifCond .eq 14, 3) := by decide +kernel
theorem dX12_whyNotLeave_40 : decode cX12_whyNotLeave 40 = .ok (.aload_n 0, 1) := by decide +kernel
theorem dX12_whyNotLeave_41 : decode cX12_whyNotLeave 41 = .ok (.getfield 56, 3) := by decide +kernel
theorem dX12_whyNotLeave_44 : decode cX12_whyNotLeave 44 = .ok (.iload_n 1, 1) := by decide +kernel
theorem dX12_whyNotLeave_45 : decode cX12_whyNotLeave 45 = .ok (.baload, 1) := by decide +kernel
theorem dX12_whyNotLeave_46 : decode cX12_whyNotLeave 46 = .ok (.ifCond .ne 5, 3) := by decide +kernel
theorem dX12_whyNotLeave_49 : decode cX12_whyNotLeave 49 = .ok (.iconst 3, 1) := by decide +kernel
theorem dX12_whyNotLeave_50 : decode cX12_whyNotLeave 50 = .ok (.ireturn, 1) := by decide +kernel
theorem dX12_whyNotLeave_51 : decode cX12_whyNotLeave 51 = .ok (.aload_n 0, 1) := by decide +kernel
theorem dX12_whyNotLeave_52 : decode cX12_whyNotLeave 52 = .ok (.getfield 50, 3) := by decide +kernel
theorem dX12_whyNotLeave_55 : decode cX12_whyNotLeave 55 = .ok (.iload_n 1, 1) := by decide +kernel
theorem dX12_whyNotLeave_56 : decode cX12_whyNotLeave 56 = .ok (.iaload, 1) := by decide +kernel
theorem dX12_whyNotLeave_57 : decode cX12_whyNotLeave 57 = .ok (.ifCond .eq 18, 3) := by decide +kernel
theorem dX12_whyNotLeave_60 : decode cX12_whyNotLeave 60 = .ok (.aload_n 0, 1) := by decide +kernel
theorem dX12_whyNotLeave_61 : decode cX12_whyNotLeave 61 = .ok (.getfield 50, 3) := by decide +kernel
theorem dX12_whyNotLeave_64 : decode cX12_whyNotLeave 64 = .ok (.iload_n 1, 1) := by decide +kernel
theorem dX12_whyNotLeave_65 : decode cX12_whyNotLeave 65 = .ok (.iaload, 1) := by decide +kernel
theorem dX12_whyNotLeave_66 : decode cX12_whyNotLeave 66 = .ok (.iconst 1, 1) := by decide +kernel
theorem dX12_whyNotLeave_67 : decode cX12_whyNotLeave 67 = .ok (.if_icmp .eq 8, 3) := by decide +kernel
theorem dX12_whyNotLeave_70 : decode cX12_whyNotLeave 70 = .ok (.bipush 21, 2) := by decide +kernel
theorem dX12_whyNotLeave_72 : decode cX12_whyNotLeave 72 = .ok (.goto 4, 3) := by decide +kernel
theorem dX12_whyNotLeave_75 : decode cX12_whyNotLeave 75 = .ok (.iconst 0, 1) := by decide +kernel
theorem dX12_whyNotLeave_76 : decode cX12_whyNotLeave 76 = .ok (.ireturn, 1) := by decide +kernel
theorem dX12_whyNot_0 : decode cX12_whyNot 0 = .ok (.iload_n 1, 1) := by decide +kernel
theorem dX12_whyNot_1 : decode cX12_whyNot 1 = .ok (.tableswitch 156 0 11 #[63, 69, 75, 90, 90, 107, 107, 107, 107, 115, 145, 151], 63) := by decide +kernel
theorem dX12_whyNot_64 : decode cX12_whyNot 64 = .ok (.aload_n 0, 1) := by decide +kernel
theorem dX12_whyNot_65 : decode cX12_whyNot 65 = .ok (.iload_n 2, 1) := by decide +kernel
theorem dX12_whyNot_66 : decode cX12_whyNot 66 = .ok (.invokevirtual 361, 3) := by decide +kernel
theorem dX12_whyNot_69 : decode cX12_whyNot 69 = .ok (.ireturn, 1) := by decide +kernel
theorem dX12_whyNot_70 : decode cX12_whyNot 70 = .ok (.aload_n 0, 1) := by decide +kernel
theorem dX12_whyNot_71 : decode cX12_whyNot 71 = .ok (.iload_n 2, 1) := by decide +kernel
theorem dX12_whyNot_72 : decode cX12_whyNot 72 = .ok (.invokevirtual 364, 3) := by decide +kernel
theorem dX12_whyNot_75 : decode cX12_whyNot 75 = .ok (.ireturn, 1) := by decide +kernel
theorem dX12_whyNot_76 : decode cX12_whyNot 76 = .ok (.aload_n 0, 1) := by decide +kernel
theorem dX12_whyNot_77 : decode cX12_whyNot 77 = .ok (.iload_n 2, 1) := by decide +kernel
theorem dX12_whyNot_78 : decode cX12_whyNot 78 = .ok (.invokevirtual 355, 3) := by decide +kernel
theorem dX12_whyNot_81 : decode cX12_whyNot 81 = .ok (.ifCond .eq 7, 3) := by decide +kernel
theorem dX12_whyNot_84 : decode cX12_whyNot 84 = .ok (.iconst 0, 1) := by decide +kernel
theorem dX12_whyNot_85 : decode cX12_whyNot 85 = .ok (.goto 5, 3) := by decide +kernel
theorem dX12_whyNot_88 : decode cX12_whyNot 88 = .ok (.bipush 11, 2) := by decide +kernel
theorem dX12_whyNot_90 : decode cX12_whyNot 90 = .ok (.ireturn, 1) := by decide +kernel
theorem dX12_whyNot_91 : decode cX12_whyNot 91 = .ok (.aload_n 0, 1) := by decide +kernel
theorem dX12_whyNot_92 : decode cX12_whyNot 92 = .ok (.iload_n 2, 1) := by decide +kernel
theorem dX12_whyNot_93 : decode cX12_whyNot 93 = .ok (.iload_n 3, 1) := by decide +kernel
theorem dX12_whyNot_94 : decode cX12_whyNot 94 = .ok (.iload_n 1, 1) := by decide +kernel
theorem dX12_whyNot_95 : decode cX12_whyNot 95 = .ok (.iconst 3, 1) := by decide +kernel
theorem dX12_whyNot_96 : decode cX12_whyNot 96 = .ok (.if_icmp .ne 7, 3) := by decide +kernel
theorem dX12_whyNot_99 : decode cX12_whyNot 99 = .ok (.iconst 1, 1) := by decide +kernel
theorem dX12_whyNot_100 : decode cX12_whyNot 100 = .ok (.goto 4, 3) := by decide +kernel
theorem dX12_whyNot_103 : decode cX12_whyNot 103 = .ok (.iconst 0, 1) := by decide +kernel
theorem dX12_whyNot_104 : decode cX12_whyNot 104 = .ok (.invokevirtual 367, 3) := by decide +kernel
theorem dX12_whyNot_107 : decode cX12_whyNot 107 = .ok (.ireturn, 1) := by decide +kernel
theorem dX12_whyNot_108 : decode cX12_whyNot 108 = .ok (.aload_n 0, 1) := by decide +kernel
theorem dX12_whyNot_109 : decode cX12_whyNot 109 = .ok (.iload_n 1, 1) := by decide +kernel
theorem dX12_whyNot_110 : decode cX12_whyNot 110 = .ok (.iload_n 2, 1) := by decide +kernel
theorem dX12_whyNot_111 : decode cX12_whyNot 111 = .ok (.iload_n 3, 1) := by decide +kernel
theorem dX12_whyNot_112 : decode cX12_whyNot 112 = .ok (.invokevirtual 371, 3) := by decide +kernel
theorem dX12_whyNot_115 : decode cX12_whyNot 115 = .ok (.ireturn, 1) := by decide +kernel
theorem dX12_whyNot_116 : decode cX12_whyNot 116 = .ok (.aload_n 0, 1) := by decide +kernel
theorem dX12_whyNot_117 : decode cX12_whyNot 117 = .ok (.iload_n 2, 1) := by decide +kernel
theorem dX12_whyNot_118 : decode cX12_whyNot 118 = .ok (.invokevirtual 355, 3) := by decide +kernel
theorem dX12_whyNot_121 : decode cX12_whyNot 121 = .ok (.ifCond .ne 8, 3) := by decide +kernel
theorem dX12_whyNot_124 : decode cX12_whyNot 124 = .ok (.bipush 11, 2) := by decide +kernel
theorem dX12_whyNot_126 : decode cX12_whyNot 126 = .ok (.goto 19, 3) := by decide +kernel
theorem dX12_whyNot_129 : decode cX12_whyNot 129 = .ok (.aload_n 0, 1) := by decide +kernel
theorem dX12_whyNot_130 : decode cX12_whyNot 130 = .ok (.iload_n 2, 1) := by decide +kernel
theorem dX12_whyNot_131 : decode cX12_whyNot 131 = .ok (.iconst 4, 1) := by decide +kernel
theorem dX12_whyNot_132 : decode cX12_whyNot 132 = .ok (.invokevirtual 256, 3) := by decide +kernel
theorem dX12_whyNot_135 : decode cX12_whyNot 135 = .ok (.iconst 1, 1) := by decide +kernel
theorem dX12_whyNot_136 : decode cX12_whyNot 136 = .ok (.if_icmp .ne 7, 3) := by decide +kernel
theorem dX12_whyNot_139 : decode cX12_whyNot 139 = .ok (.iconst 0, 1) := by decide +kernel
theorem dX12_whyNot_140 : decode cX12_whyNot 140 = .ok (.goto 5, 3) := by decide +kernel
theorem dX12_whyNot_143 : decode cX12_whyNot 143 = .ok (.bipush 19, 2) := by decide +kernel
theorem dX12_whyNot_145 : decode cX12_whyNot 145 = .ok (.ireturn, 1) := by decide +kernel
theorem dX12_whyNot_146 : decode cX12_whyNot 146 = .ok (.aload_n 0, 1) := by decide +kernel
theorem dX12_whyNot_147 : decode cX12_whyNot 147 = .ok (.iload_n 2, 1) := by decide +kernel
theorem dX12_whyNot_148 : decode cX12_whyNot 148 = .ok (.invokevirtual 375, 3) := by decide +kernel
theorem dX12_whyNot_151 : decode cX12_whyNot 151 = .ok (.ireturn, 1) := by decide +kernel
theorem dX12_whyNot_152 : decode cX12_whyNot 152 = .ok (.aload_n 0, 1) := by decide +kernel
theorem dX12_whyNot_153 : decode cX12_whyNot 153 = .ok (.invokevirtual 378, 3) := by decide +kernel
theorem dX12_whyNot_156 : decode cX12_whyNot 156 = .ok (.ireturn, 1) := by decide +kernel
theorem dX12_whyNot_157 : decode cX12_whyNot 157 = .ok (.iconst 0, 1) := by decide +kernel
theorem dX12_whyNot_158 : decode cX12_whyNot 158 = .ok (.ireturn, 1) := by decide +kernel
theorem dX12_lay_0 : decode cX12_lay 0 = .ok (.aload_n 0, 1) := by decide +kernel
theorem dX12_lay_1 : decode cX12_lay 1 = .ok (.getfield 50, 3) := by decide +kernel
theorem dX12_lay_4 : decode cX12_lay 4 = .ok (.iload_n 1, 1) := by decide +kernel
theorem dX12_lay_5 : decode cX12_lay 5 = .ok (.iload_n 2, 1) := by decide +kernel
theorem dX12_lay_6 : decode cX12_lay 6 = .ok (.iastore, 1) := by decide +kernel
theorem dX12_lay_7 : decode cX12_lay 7 = .ok (.aload_n 0, 1) := by decide +kernel
theorem dX12_lay_8 : decode cX12_lay 8 = .ok (.getfield 53, 3) := by decide +kernel
theorem dX12_lay_11 : decode cX12_lay 11 = .ok (.iload_n 1, 1) := by decide +kernel
theorem dX12_lay_12 : decode cX12_lay 12 = .ok (.iload_n 3, 1) := by decide +kernel
theorem dX12_lay_13 : decode cX12_lay 13 = .ok (.iastore, 1) := by decide +kernel
theorem dX12_lay_14 : decode cX12_lay 14 = .ok (.return_, 1) := by decide +kernel
theorem dX12_acts_0 : decode cX12_acts 0 = .ok (.iload_n 1, 1) := by decide +kernel
theorem dX12_acts_1 : decode cX12_acts 1 = .ok (.tableswitch 271 0 11 #[63, 95, 108, 134, 144, 154, 154, 173, 173, 193, 206, 232], 63) := by decide +kernel
theorem dX12_acts_64 : decode cX12_acts 64 = .ok (.aload_n 0, 1) := by decide +kernel
theorem dX12_acts_65 : decode cX12_acts 65 = .ok (.aload_n 0, 1) := by decide +kernel
theorem dX12_acts_66 : decode cX12_acts 66 = .ok (.getfield 53, 3) := by decide +kernel
theorem dX12_acts_69 : decode cX12_acts 69 = .ok (.aload_n 0, 1) := by decide +kernel
theorem dX12_acts_70 : decode cX12_acts 70 = .ok (.getfield 155, 3) := by decide +kernel
theorem dX12_acts_73 : decode cX12_acts 73 = .ok (.iaload, 1) := by decide +kernel
theorem dX12_acts_74 : decode cX12_acts 74 = .ok (.iload_n 2, 1) := by decide +kernel
theorem dX12_acts_75 : decode cX12_acts 75 = .ok (.invokevirtual 281, 3) := by decide +kernel
theorem dX12_acts_78 : decode cX12_acts 78 = .ok (.istore 4, 2) := by decide +kernel
theorem dX12_acts_80 : decode cX12_acts 80 = .ok (.aload_n 0, 1) := by decide +kernel
theorem dX12_acts_81 : decode cX12_acts 81 = .ok (.aload_n 0, 1) := by decide +kernel
theorem dX12_acts_82 : decode cX12_acts 82 = .ok (.getfield 155, 3) := by decide +kernel
theorem dX12_acts_85 : decode cX12_acts 85 = .ok (.iconst 0, 1) := by decide +kernel
theorem dX12_acts_86 : decode cX12_acts 86 = .ok (.aload_n 0, 1) := by decide +kernel
theorem dX12_acts_87 : decode cX12_acts 87 = .ok (.getfield 263, 3) := by decide +kernel
theorem dX12_acts_90 : decode cX12_acts 90 = .ok (.invokevirtual 381, 3) := by decide +kernel
theorem dX12_acts_93 : decode cX12_acts 93 = .ok (.goto 179, 3) := by decide +kernel
theorem dX12_acts_96 : decode cX12_acts 96 = .ok (.aload_n 0, 1) := by decide +kernel
theorem dX12_acts_97 : decode cX12_acts 97 = .ok (.iload_n 2, 1) := by decide +kernel
theorem dX12_acts_98 : decode cX12_acts 98 = .ok (.iconst 2, 1) := by decide +kernel
theorem dX12_acts_99 : decode cX12_acts 99 = .ok (.aload_n 0, 1) := by decide +kernel
theorem dX12_acts_100 : decode cX12_acts 100 = .ok (.getfield 155, 3) := by decide +kernel
theorem dX12_acts_103 : decode cX12_acts 103 = .ok (.invokevirtual 381, 3) := by decide +kernel
theorem dX12_acts_106 : decode cX12_acts 106 = .ok (.goto 166, 3) := by decide +kernel
theorem dX12_acts_109 : decode cX12_acts 109 = .ok (.aload_n 0, 1) := by decide +kernel
theorem dX12_acts_110 : decode cX12_acts 110 = .ok (.iload_n 2, 1) := by decide +kernel
theorem dX12_acts_111 : decode cX12_acts 111 = .ok (.aload_n 0, 1) := by decide +kernel
theorem dX12_acts_112 : decode cX12_acts 112 = .ok (.getfield 50, 3) := by decide +kernel
theorem dX12_acts_115 : decode cX12_acts 115 = .ok (.aload_n 0, 1) := by decide +kernel
theorem dX12_acts_116 : decode cX12_acts 116 = .ok (.getfield 155, 3) := by decide +kernel
theorem dX12_acts_119 : decode cX12_acts 119 = .ok (.iaload, 1) := by decide +kernel
theorem dX12_acts_120 : decode cX12_acts 120 = .ok (.aload_n 0, 1) := by decide +kernel
theorem dX12_acts_121 : decode cX12_acts 121 = .ok (.getfield 53, 3) := by decide +kernel
theorem dX12_acts_124 : decode cX12_acts 124 = .ok (.aload_n 0, 1) := by decide +kernel
theorem dX12_acts_125 : decode cX12_acts 125 = .ok (.getfield 155, 3) := by decide +kernel
theorem dX12_acts_128 : decode cX12_acts 128 = .ok (.iaload, 1) := by decide +kernel
theorem dX12_acts_129 : decode cX12_acts 129 = .ok (.invokevirtual 381, 3) := by decide +kernel
theorem dX12_acts_132 : decode cX12_acts 132 = .ok (.goto 140, 3) := by decide +kernel
theorem dX12_acts_135 : decode cX12_acts 135 = .ok (.aload_n 0, 1) := by decide +kernel
theorem dX12_acts_136 : decode cX12_acts 136 = .ok (.iload_n 2, 1) := by decide +kernel
theorem dX12_acts_137 : decode cX12_acts 137 = .ok (.iconst 0, 1) := by decide +kernel
theorem dX12_acts_138 : decode cX12_acts 138 = .ok (.iload_n 3, 1) := by decide +kernel
theorem dX12_acts_139 : decode cX12_acts 139 = .ok (.invokevirtual 381, 3) := by decide +kernel
theorem dX12_acts_142 : decode cX12_acts 142 = .ok (.goto 130, 3) := by decide +kernel
theorem dX12_acts_145 : decode cX12_acts 145 = .ok (.aload_n 0, 1) := by decide +kernel
theorem dX12_acts_146 : decode cX12_acts 146 = .ok (.iload_n 2, 1) := by decide +kernel
theorem dX12_acts_147 : decode cX12_acts 147 = .ok (.iconst 1, 1) := by decide +kernel
theorem dX12_acts_148 : decode cX12_acts 148 = .ok (.iload_n 3, 1) := by decide +kernel
theorem dX12_acts_149 : decode cX12_acts 149 = .ok (.invokevirtual 381, 3) := by decide +kernel
theorem dX12_acts_152 : decode cX12_acts 152 = .ok (.goto 120, 3) := by decide +kernel
theorem dX12_acts_155 : decode cX12_acts 155 = .ok (.aload_n 0, 1) := by decide +kernel
theorem dX12_acts_156 : decode cX12_acts 156 = .ok (.getfield 56, 3) := by decide +kernel
theorem dX12_acts_159 : decode cX12_acts 159 = .ok (.iload_n 2, 1) := by decide +kernel
theorem dX12_acts_160 : decode cX12_acts 160 = .ok (.iload_n 1, 1) := by decide +kernel
theorem dX12_acts_161 : decode cX12_acts 161 = .ok (.iconst 5, 1) := by decide +kernel
theorem dX12_acts_162 : decode cX12_acts 162 = .ok (.if_icmp .ne 7, 3) := by decide +kernel
theorem dX12_acts_165 : decode cX12_acts 165 = .ok (.iconst 1, 1) := by decide +kernel
theorem dX12_acts_166 : decode cX12_acts 166 = .ok (.goto 4, 3) := by decide +kernel
theorem dX12_acts_169 : decode cX12_acts 169 = .ok (.iconst 0, 1) := by decide +kernel
theorem dX12_acts_170 : decode cX12_acts 170 = .ok (.bastore, 1) := by decide +kernel
theorem dX12_acts_171 : decode cX12_acts 171 = .ok (.goto 101, 3) := by decide +kernel
theorem dX12_acts_174 : decode cX12_acts 174 = .ok (.aload_n 0, 1) := by decide +kernel
theorem dX12_acts_175 : decode cX12_acts 175 = .ok (.getfield 59, 3) := by decide +kernel
theorem dX12_acts_178 : decode cX12_acts 178 = .ok (.iload_n 2, 1) := by decide +kernel
theorem dX12_acts_179 : decode cX12_acts 179 = .ok (.iload_n 1, 1) := by decide +kernel
theorem dX12_acts_180 : decode cX12_acts 180 = .ok (.bipush 8, 2) := by decide +kernel
theorem dX12_acts_182 : decode cX12_acts 182 = .ok (.if_icmp .ne 7, 3) := by decide +kernel
theorem dX12_acts_185 : decode cX12_acts 185 = .ok (.iconst 1, 1) := by decide +kernel
theorem dX12_acts_186 : decode cX12_acts 186 = .ok (.goto 4, 3) := by decide +kernel
theorem dX12_acts_189 : decode cX12_acts 189 = .ok (.iconst 0, 1) := by decide +kernel
theorem dX12_acts_190 : decode cX12_acts 190 = .ok (.bastore, 1) := by decide +kernel
theorem dX12_acts_191 : decode cX12_acts 191 = .ok (.goto 81, 3) := by decide +kernel
theorem dX12_acts_194 : decode cX12_acts 194 = .ok (.aload_n 0, 1) := by decide +kernel
theorem dX12_acts_195 : decode cX12_acts 195 = .ok (.iload_n 2, 1) := by decide +kernel
theorem dX12_acts_196 : decode cX12_acts 196 = .ok (.iconst 3, 1) := by decide +kernel
theorem dX12_acts_197 : decode cX12_acts 197 = .ok (.aload_n 0, 1) := by decide +kernel
theorem dX12_acts_198 : decode cX12_acts 198 = .ok (.getfield 155, 3) := by decide +kernel
theorem dX12_acts_201 : decode cX12_acts 201 = .ok (.invokevirtual 381, 3) := by decide +kernel
theorem dX12_acts_204 : decode cX12_acts 204 = .ok (.goto 68, 3) := by decide +kernel
theorem dX12_acts_207 : decode cX12_acts 207 = .ok (.aload_n 0, 1) := by decide +kernel
theorem dX12_acts_208 : decode cX12_acts 208 = .ok (.aload_n 0, 1) := by decide +kernel
theorem dX12_acts_209 : decode cX12_acts 209 = .ok (.getfield 155, 3) := by decide +kernel
theorem dX12_acts_212 : decode cX12_acts 212 = .ok (.aload_n 0, 1) := by decide +kernel
theorem dX12_acts_213 : decode cX12_acts 213 = .ok (.getfield 98, 3) := by decide +kernel
theorem dX12_acts_216 : decode cX12_acts 216 = .ok (.iload_n 2, 1) := by decide +kernel
theorem dX12_acts_217 : decode cX12_acts 217 = .ok (.baload, 1) := by decide +kernel
theorem dX12_acts_218 : decode cX12_acts 218 = .ok (.ifCond .eq 7, 3) := by decide +kernel
theorem dX12_acts_221 : decode cX12_acts 221 = .ok (.iconst 0, 1) := by decide +kernel
theorem dX12_acts_222 : decode cX12_acts 222 = .ok (.goto 4, 3) := by decide +kernel
theorem dX12_acts_225 : decode cX12_acts 225 = .ok (.iconst 1, 1) := by decide +kernel
theorem dX12_acts_226 : decode cX12_acts 226 = .ok (.iload_n 2, 1) := by decide +kernel
theorem dX12_acts_227 : decode cX12_acts 227 = .ok (.invokevirtual 381, 3) := by decide +kernel
theorem dX12_acts_230 : decode cX12_acts 230 = .ok (.goto 42, 3) := by decide +kernel
theorem dX12_acts_233 : decode cX12_acts 233 = .ok (.aload_n 0, 1) := by decide +kernel
theorem dX12_acts_234 : decode cX12_acts 234 = .ok (.aload_n 0, 1) := by decide +kernel
theorem dX12_acts_235 : decode cX12_acts 235 = .ok (.getfield 155, 3) := by decide +kernel
theorem dX12_acts_238 : decode cX12_acts 238 = .ok (.aload_n 0, 1) := by decide +kernel
theorem dX12_acts_239 : decode cX12_acts 239 = .ok (.getfield 50, 3) := by decide +kernel
theorem dX12_acts_242 : decode cX12_acts 242 = .ok (.aload_n 0, 1) := by decide +kernel
theorem dX12_acts_243 : decode cX12_acts 243 = .ok (.getfield 53, 3) := by decide +kernel
theorem dX12_acts_246 : decode cX12_acts 246 = .ok (.aload_n 0, 1) := by decide +kernel
theorem dX12_acts_247 : decode cX12_acts 247 = .ok (.getfield 155, 3) := by decide +kernel
theorem dX12_acts_250 : decode cX12_acts 250 = .ok (.iaload, 1) := by decide +kernel
theorem dX12_acts_251 : decode cX12_acts 251 = .ok (.iaload, 1) := by decide +kernel
theorem dX12_acts_252 : decode cX12_acts 252 = .ok (.aload_n 0, 1) := by decide +kernel
theorem dX12_acts_253 : decode cX12_acts 253 = .ok (.getfield 53, 3) := by decide +kernel
theorem dX12_acts_256 : decode cX12_acts 256 = .ok (.aload_n 0, 1) := by decide +kernel
theorem dX12_acts_257 : decode cX12_acts 257 = .ok (.getfield 53, 3) := by decide +kernel
theorem dX12_acts_260 : decode cX12_acts 260 = .ok (.aload_n 0, 1) := by decide +kernel
theorem dX12_acts_261 : decode cX12_acts 261 = .ok (.getfield 155, 3) := by decide +kernel
theorem dX12_acts_264 : decode cX12_acts 264 = .ok (.iaload, 1) := by decide +kernel
theorem dX12_acts_265 : decode cX12_acts 265 = .ok (.iaload, 1) := by decide +kernel
theorem dX12_acts_266 : decode cX12_acts 266 = .ok (.invokevirtual 381, 3) := by decide +kernel
theorem dX12_acts_269 : decode cX12_acts 269 = .ok (.goto 3, 3) := by decide +kernel
theorem dX12_acts_272 : decode cX12_acts 272 = .ok (.return_, 1) := by decide +kernel
theorem dX12_hasSecond_0 : decode cX12_hasSecond 0 = .ok (.iload_n 0, 1) := by decide +kernel
theorem dX12_hasSecond_1 : decode cX12_hasSecond 1 = .ok (.iconst 3, 1) := by decide +kernel
theorem dX12_hasSecond_2 : decode cX12_hasSecond 2 = .ok (.if_icmp .eq 20, 3) := by decide +kernel
theorem dX12_hasSecond_5 : decode cX12_hasSecond 5 = .ok (.iload_n 0, 1) := by decide +kernel
theorem dX12_hasSecond_6 : decode cX12_hasSecond 6 = .ok (.iconst 4, 1) := by decide +kernel
theorem dX12_hasSecond_7 : decode cX12_hasSecond 7 = .ok (.if_icmp .eq 15, 3) := by decide +kernel
theorem dX12_hasSecond_10 : decode cX12_hasSecond 10 = .ok (.iload_n 0, 1) := by decide +kernel
theorem dX12_hasSecond_11 : decode cX12_hasSecond 11 = .ok (.bipush 7, 2) := by decide +kernel
theorem dX12_hasSecond_13 : decode cX12_hasSecond 13 = .ok (.if_icmp .eq 9, 3) := by decide +kernel
theorem dX12_hasSecond_16 : decode cX12_hasSecond 16 = .ok (.iload_n 0, 1) := by decide +kernel
theorem dX12_hasSecond_17 : decode cX12_hasSecond 17 = .ok (.bipush 8, 2) := by decide +kernel
theorem dX12_hasSecond_19 : decode cX12_hasSecond 19 = .ok (.if_icmp .ne 7, 3) := by decide +kernel
theorem dX12_hasSecond_22 : decode cX12_hasSecond 22 = .ok (.iconst 1, 1) := by decide +kernel
theorem dX12_hasSecond_23 : decode cX12_hasSecond 23 = .ok (.goto 4, 3) := by decide +kernel
theorem dX12_hasSecond_26 : decode cX12_hasSecond 26 = .ok (.iconst 0, 1) := by decide +kernel
theorem dX12_hasSecond_27 : decode cX12_hasSecond 27 = .ok (.ireturn, 1) := by decide +kernel
theorem dX12_act_0 : decode cX12_act 0 = .ok (.iload_n 1, 1) := by decide +kernel
theorem dX12_act_1 : decode cX12_act 1 = .ok (.i2l, 1) := by decide +kernel
theorem dX12_act_2 : decode cX12_act 2 = .ok (.lconst 0, 1) := by decide +kernel
theorem dX12_act_3 : decode cX12_act 3 = .ok (.ldc2_w 385, 3) := by decide +kernel
theorem dX12_act_6 : decode cX12_act 6 = .ok (.invokestatic 166, 3) := by decide +kernel
theorem dX12_act_9 : decode cX12_act 9 = .ok (.ifCond .eq 54, 3) := by decide +kernel
theorem dX12_act_12 : decode cX12_act 12 = .ok (.iload_n 1, 1) := by decide +kernel
theorem dX12_act_13 : decode cX12_act 13 = .ok (.ifCond .ne 15, 3) := by decide +kernel
theorem dX12_act_16 : decode cX12_act 16 = .ok (.iload_n 2, 1) := by decide +kernel
theorem dX12_act_17 : decode cX12_act 17 = .ok (.i2l, 1) := by decide +kernel
theorem dX12_act_18 : decode cX12_act 18 = .ok (.lconst 0, 1) := by decide +kernel
theorem dX12_act_19 : decode cX12_act 19 = .ok (.ldc2_w 197, 3) := by decide +kernel
theorem dX12_act_22 : decode cX12_act 22 = .ok (.invokestatic 166, 3) := by decide +kernel
theorem dX12_act_25 : decode cX12_act 25 = .ok (.ifCond .eq 38, 3) := by decide +kernel
theorem dX12_act_28 : decode cX12_act 28 = .ok (.iload_n 1, 1) := by decide +kernel
theorem dX12_act_29 : decode cX12_act 29 = .ok (.i2l, 1) := by decide +kernel
theorem dX12_act_30 : decode cX12_act 30 = .ok (.lconst 1, 1) := by decide +kernel
theorem dX12_act_31 : decode cX12_act 31 = .ok (.ldc2_w 387, 3) := by decide +kernel
theorem dX12_act_34 : decode cX12_act 34 = .ok (.invokestatic 166, 3) := by decide +kernel
theorem dX12_act_37 : decode cX12_act 37 = .ok (.ifCond .eq 11, 3) := by decide +kernel
theorem dX12_act_40 : decode cX12_act 40 = .ok (.aload_n 0, 1) := by decide +kernel
theorem dX12_act_41 : decode cX12_act 41 = .ok (.iload_n 2, 1) := by decide +kernel
theorem dX12_act_42 : decode cX12_act 42 = .ok (.invokevirtual 180, 3) := by decide +kernel
theorem dX12_act_45 : decode cX12_act 45 = .ok (.ifCond .eq 18, 3) := by decide +kernel
theorem dX12_act_48 : decode cX12_act 48 = .ok (.iload_n 1, 1) := by decide +kernel
theorem dX12_act_49 : decode cX12_act 49 = .ok (.invokestatic 389, 3) := by decide +kernel
theorem dX12_act_52 : decode cX12_act 52 = .ok (.ifCond .eq 13, 3) := by decide +kernel
theorem dX12_act_55 : decode cX12_act 55 = .ok (.aload_n 0, 1) := by decide +kernel
theorem dX12_act_56 : decode cX12_act 56 = .ok (.iload_n 3, 1) := by decide +kernel
theorem dX12_act_57 : decode cX12_act 57 = .ok (.invokevirtual 180, 3) := by decide +kernel
theorem dX12_act_60 : decode cX12_act 60 = .ok (.ifCond .ne 5, 3) := by decide +kernel
theorem dX12_act_63 : decode cX12_act 63 = .ok (.iconst (-1), 1) := by decide +kernel
theorem dX12_act_64 : decode cX12_act 64 = .ok (.ireturn, 1) := by decide +kernel
theorem dX12_act_65 : decode cX12_act 65 = .ok (.aload_n 0, 1) := by decide +kernel
theorem dX12_act_66 : decode cX12_act 66 = .ok (.getfield 155, 3) := by decide +kernel
theorem dX12_act_69 : decode cX12_act 69 = .ok (.bipush (-9), 2) := by decide +kernel
theorem dX12_act_71 : decode cX12_act 71 = .ok (.if_icmp .eq 15, 3) := by decide +kernel
theorem dX12_act_74 : decode cX12_act 74 = .ok (.aload_n 0, 1) := by decide +kernel
theorem dX12_act_75 : decode cX12_act 75 = .ok (.getfield 291, 3) := by decide +kernel
theorem dX12_act_78 : decode cX12_act 78 = .ok (.bipush 100, 2) := by decide +kernel
theorem dX12_act_80 : decode cX12_act 80 = .ok (.if_icmp .ne 6, 3) := by decide +kernel
theorem dX12_act_83 : decode cX12_act 83 = .ok (.bipush (-2), 2) := by decide +kernel
theorem dX12_act_85 : decode cX12_act 85 = .ok (.ireturn, 1) := by decide +kernel
theorem dX12_act_86 : decode cX12_act 86 = .ok (.aload_n 0, 1) := by decide +kernel
theorem dX12_act_87 : decode cX12_act 87 = .ok (.getfield 155, 3) := by decide +kernel
theorem dX12_act_90 : decode cX12_act 90 = .ok (.bipush (-9), 2) := by decide +kernel
theorem dX12_act_92 : decode cX12_act 92 = .ok (.if_icmp .ne 6, 3) := by decide +kernel
theorem dX12_act_95 : decode cX12_act 95 = .ok (.bipush (-5), 2) := by decide +kernel
theorem dX12_act_97 : decode cX12_act 97 = .ok (.ireturn, 1) := by decide +kernel
theorem dX12_act_98 : decode cX12_act 98 = .ok (.aload_n 0, 1) := by decide +kernel
theorem dX12_act_99 : decode cX12_act 99 = .ok (.invokevirtual 392, 3) := by decide +kernel
theorem dX12_act_102 : decode cX12_act 102 = .ok (.aload_n 0, 1) := by decide +kernel
theorem dX12_act_103 : decode cX12_act 103 = .ok (.invokevirtual 395, 3) := by decide +kernel
theorem dX12_act_106 : decode cX12_act 106 = .ok (.aload_n 0, 1) := by decide +kernel
theorem dX12_act_107 : decode cX12_act 107 = .ok (.iload_n 1, 1) := by decide +kernel
theorem dX12_act_108 : decode cX12_act 108 = .ok (.iload_n 2, 1) := by decide +kernel
theorem dX12_act_109 : decode cX12_act 109 = .ok (.iload_n 3, 1) := by decide +kernel
theorem dX12_act_110 : decode cX12_act 110 = .ok (.invokevirtual 398, 3) := by decide +kernel
theorem dX12_act_113 : decode cX12_act 113 = .ok (.istore 4, 2) := by decide +kernel
theorem dX12_act_115 : decode cX12_act 115 = .ok (.iload 4, 2) := by decide +kernel
theorem dX12_act_117 : decode cX12_act 117 = .ok (.ifCond .le 6, 3) := by decide +kernel
theorem dX12_act_120 : decode cX12_act 120 = .ok (.iload 4, 2) := by decide +kernel
theorem dX12_act_122 : decode cX12_act 122 = .ok (.ireturn, 1) := by decide +kernel
theorem dX12_act_123 : decode cX12_act 123 = .ok (.iconst 0, 1) := by decide +kernel
theorem dX12_act_124 : decode cX12_act 124 = .ok (.istore 5, 2) := by decide +kernel
theorem dX12_act_126 : decode cX12_act 126 = .ok (.iload 5, 2) := by decide +kernel
theorem dX12_act_128 : decode cX12_act 128 = .ok (.bipush 30, 2) := by decide +kernel
theorem dX12_act_130 : decode cX12_act 130 = .ok (.if_icmp .ge 97, 3) := by decide +kernel
theorem dX12_act_133 : decode cX12_act 133 = .ok (.aload_n 0, 1) := by decide +kernel
theorem dX12_act_134 : decode cX12_act 134 = .ok (.getfield 65, 3) := by decide +kernel
theorem dX12_act_137 : decode cX12_act 137 = .ok (.bipush 30, 2) := by decide +kernel
theorem dX12_act_139 : decode cX12_act 139 = .ok (.aload_n 0, 1) := by decide +kernel
theorem dX12_act_140 : decode cX12_act 140 = .ok (.getfield 291, 3) := by decide +kernel
theorem dX12_act_143 : decode cX12_act 143 = .ok (.imul, 1) := by decide +kernel
theorem dX12_act_144 : decode cX12_act 144 = .ok (.iload 5, 2) := by decide +kernel
theorem dX12_act_146 : decode cX12_act 146 = .ok (.iadd, 1) := by decide +kernel
theorem dX12_act_147 : decode cX12_act 147 = .ok (.aload_n 0, 1) := by decide +kernel
theorem dX12_act_148 : decode cX12_act 148 = .ok (.getfield 50, 3) := by decide +kernel
theorem dX12_act_151 : decode cX12_act 151 = .ok (.iload 5, 2) := by decide +kernel
theorem dX12_act_153 : decode cX12_act 153 = .ok (.iaload, 1) := by decide +kernel
theorem dX12_act_154 : decode cX12_act 154 = .ok (.iastore, 1) := by decide +kernel
theorem dX12_act_155 : decode cX12_act 155 = .ok (.aload_n 0, 1) := by decide +kernel
theorem dX12_act_156 : decode cX12_act 156 = .ok (.getfield 68, 3) := by decide +kernel
theorem dX12_act_159 : decode cX12_act 159 = .ok (.bipush 30, 2) := by decide +kernel
theorem dX12_act_161 : decode cX12_act 161 = .ok (.aload_n 0, 1) := by decide +kernel
theorem dX12_act_162 : decode cX12_act 162 = .ok (.getfield 291, 3) := by decide +kernel
theorem dX12_act_165 : decode cX12_act 165 = .ok (.imul, 1) := by decide +kernel
theorem dX12_act_166 : decode cX12_act 166 = .ok (.iload 5, 2) := by decide +kernel
theorem dX12_act_168 : decode cX12_act 168 = .ok (.iadd, 1) := by decide +kernel
theorem dX12_act_169 : decode cX12_act 169 = .ok (.aload_n 0, 1) := by decide +kernel
theorem dX12_act_170 : decode cX12_act 170 = .ok (.getfield 53, 3) := by decide +kernel
theorem dX12_act_173 : decode cX12_act 173 = .ok (.iload 5, 2) := by decide +kernel
theorem dX12_act_175 : decode cX12_act 175 = .ok (.iaload, 1) := by decide +kernel
theorem dX12_act_176 : decode cX12_act 176 = .ok (.iastore, 1) := by decide +kernel
theorem dX12_act_177 : decode cX12_act 177 = .ok (.aload_n 0, 1) := by decide +kernel
theorem dX12_act_178 : decode cX12_act 178 = .ok (.getfield 71, 3) := by decide +kernel
theorem dX12_act_181 : decode cX12_act 181 = .ok (.bipush 30, 2) := by decide +kernel
theorem dX12_act_183 : decode cX12_act 183 = .ok (.aload_n 0, 1) := by decide +kernel
theorem dX12_act_184 : decode cX12_act 184 = .ok (.getfield 291, 3) := by decide +kernel
theorem dX12_act_187 : decode cX12_act 187 = .ok (.imul, 1) := by decide +kernel
theorem dX12_act_188 : decode cX12_act 188 = .ok (.iload 5, 2) := by decide +kernel
theorem dX12_act_190 : decode cX12_act 190 = .ok (.iadd, 1) := by decide +kernel
theorem dX12_act_191 : decode cX12_act 191 = .ok (.aload_n 0, 1) := by decide +kernel
theorem dX12_act_192 : decode cX12_act 192 = .ok (.getfield 56, 3) := by decide +kernel
theorem dX12_act_195 : decode cX12_act 195 = .ok (.iload 5, 2) := by decide +kernel
theorem dX12_act_197 : decode cX12_act 197 = .ok (.baload, 1) := by decide +kernel
theorem dX12_act_198 : decode cX12_act 198 = .ok (.bastore, 1) := by decide +kernel
theorem dX12_act_199 : decode cX12_act 199 = .ok (.aload_n 0, 1) := by decide +kernel
theorem dX12_act_200 : decode cX12_act 200 = .ok (.getfield 74, 3) := by decide +kernel
theorem dX12_act_203 : decode cX12_act 203 = .ok (.bipush 30, 2) := by decide +kernel
theorem dX12_act_205 : decode cX12_act 205 = .ok (.aload_n 0, 1) := by decide +kernel
theorem dX12_act_206 : decode cX12_act 206 = .ok (.getfield 291, 3) := by decide +kernel
theorem dX12_act_209 : decode cX12_act 209 = .ok (.imul, 1) := by decide +kernel
theorem dX12_act_210 : decode cX12_act 210 = .ok (.iload 5, 2) := by decide +kernel
theorem dX12_act_212 : decode cX12_act 212 = .ok (.iadd, 1) := by decide +kernel
theorem dX12_act_213 : decode cX12_act 213 = .ok (.aload_n 0, 1) := by decide +kernel
theorem dX12_act_214 : decode cX12_act 214 = .ok (.getfield 59, 3) := by decide +kernel
theorem dX12_act_217 : decode cX12_act 217 = .ok (.iload 5, 2) := by decide +kernel
theorem dX12_act_219 : decode cX12_act 219 = .ok (.baload, 1) := by decide +kernel
theorem dX12_act_220 : decode cX12_act 220 = .ok (.bastore, 1) := by decide +kernel
theorem dX12_act_221 : decode cX12_act 221 = .ok (.iinc 5 1, 3) := by decide +kernel
theorem dX12_act_224 : decode cX12_act 224 = .ok (.goto (-98), 3) := by decide +kernel
theorem dX12_act_227 : decode cX12_act 227 = .ok (.aload_n 0, 1) := by decide +kernel
theorem dX12_act_228 : decode cX12_act 228 = .ok (.getfield 62, 3) := by decide +kernel
theorem dX12_act_231 : decode cX12_act 231 = .ok (.iconst 3, 1) := by decide +kernel
theorem dX12_act_232 : decode cX12_act 232 = .ok (.aload_n 0, 1) := by decide +kernel
theorem dX12_act_233 : decode cX12_act 233 = .ok (.getfield 291, 3) := by decide +kernel
theorem dX12_act_236 : decode cX12_act 236 = .ok (.imul, 1) := by decide +kernel
theorem dX12_act_237 : decode cX12_act 237 = .ok (.iload_n 1, 1) := by decide +kernel
theorem dX12_act_238 : decode cX12_act 238 = .ok (.iastore, 1) := by decide +kernel
theorem dX12_act_239 : decode cX12_act 239 = .ok (.aload_n 0, 1) := by decide +kernel
theorem dX12_act_240 : decode cX12_act 240 = .ok (.getfield 62, 3) := by decide +kernel
theorem dX12_act_243 : decode cX12_act 243 = .ok (.iconst 3, 1) := by decide +kernel
theorem dX12_act_244 : decode cX12_act 244 = .ok (.aload_n 0, 1) := by decide +kernel
theorem dX12_act_245 : decode cX12_act 245 = .ok (.getfield 291, 3) := by decide +kernel
theorem dX12_act_248 : decode cX12_act 248 = .ok (.imul, 1) := by decide +kernel
theorem dX12_act_249 : decode cX12_act 249 = .ok (.iconst 1, 1) := by decide +kernel
theorem dX12_act_250 : decode cX12_act 250 = .ok (.iadd, 1) := by decide +kernel
theorem dX12_act_251 : decode cX12_act 251 = .ok (.iload_n 1, 1) := by decide +kernel
theorem dX12_act_252 : decode cX12_act 252 = .ok (.bipush 11, 2) := by decide +kernel
theorem dX12_act_254 : decode cX12_act 254 = .ok (.if_icmp .ge 7, 3) := by decide +kernel
theorem dX12_act_257 : decode cX12_act 257 = .ok (.iload_n 2, 1) := by decide +kernel
theorem dX12_act_258 : decode cX12_act 258 = .ok (.goto 4, 3) := by decide +kernel
theorem dX12_act_261 : decode cX12_act 261 = .ok (.iconst 0, 1) := by decide +kernel
theorem dX12_act_262 : decode cX12_act 262 = .ok (.iastore, 1) := by decide +kernel
theorem dX12_act_263 : decode cX12_act 263 = .ok (.aload_n 0, 1) := by decide +kernel
theorem dX12_act_264 : decode cX12_act 264 = .ok (.getfield 62, 3) := by decide +kernel
theorem dX12_act_267 : decode cX12_act 267 = .ok (.iconst 3, 1) := by decide +kernel
theorem dX12_act_268 : decode cX12_act 268 = .ok (.aload_n 0, 1) := by decide +kernel
theorem dX12_act_269 : decode cX12_act 269 = .ok (.getfield 291, 3) := by decide +kernel
theorem dX12_act_272 : decode cX12_act 272 = .ok (.imul, 1) := by decide +kernel
theorem dX12_act_273 : decode cX12_act 273 = .ok (.iconst 2, 1) := by decide +kernel
theorem dX12_act_274 : decode cX12_act 274 = .ok (.iadd, 1) := by decide +kernel
theorem dX12_act_275 : decode cX12_act 275 = .ok (.iload_n 1, 1) := by decide +kernel
theorem dX12_act_276 : decode cX12_act 276 = .ok (.invokestatic 389, 3) := by decide +kernel
theorem dX12_act_279 : decode cX12_act 279 = .ok (.ifCond .eq 7, 3) := by decide +kernel
theorem dX12_act_282 : decode cX12_act 282 = .ok (.iload_n 3, 1) := by decide +kernel
theorem dX12_act_283 : decode cX12_act 283 = .ok (.goto 4, 3) := by decide +kernel
theorem dX12_act_286 : decode cX12_act 286 = .ok (.iconst 0, 1) := by decide +kernel
theorem dX12_act_287 : decode cX12_act 287 = .ok (.iastore, 1) := by decide +kernel
theorem dX12_act_288 : decode cX12_act 288 = .ok (.aload_n 0, 1) := by decide +kernel
theorem dX12_act_289 : decode cX12_act 289 = .ok (.dup, 1) := by decide +kernel
theorem dX12_act_290 : decode cX12_act 290 = .ok (.getfield 291, 3) := by decide +kernel
theorem dX12_act_293 : decode cX12_act 293 = .ok (.iconst 1, 1) := by decide +kernel
theorem dX12_act_294 : decode cX12_act 294 = .ok (.iadd, 1) := by decide +kernel
theorem dX12_act_295 : decode cX12_act 295 = .ok (.putfield 291, 3) := by decide +kernel
theorem dX12_act_298 : decode cX12_act 298 = .ok (.aload_n 0, 1) := by decide +kernel
theorem dX12_act_299 : decode cX12_act 299 = .ok (.iload_n 1, 1) := by decide +kernel
theorem dX12_act_300 : decode cX12_act 300 = .ok (.iload_n 2, 1) := by decide +kernel
theorem dX12_act_301 : decode cX12_act 301 = .ok (.iload_n 3, 1) := by decide +kernel
theorem dX12_act_302 : decode cX12_act 302 = .ok (.invokevirtual 401, 3) := by decide +kernel
theorem dX12_act_305 : decode cX12_act 305 = .ok (.iconst 0, 1) := by decide +kernel
theorem dX12_act_306 : decode cX12_act 306 = .ok (.ireturn, 1) := by decide +kernel
theorem dX12_back_0 : decode cX12_back 0 = .ok (.aload_n 0, 1) := by decide +kernel
theorem dX12_back_1 : decode cX12_back 1 = .ok (.getfield 155, 3) := by decide +kernel
theorem dX12_back_4 : decode cX12_back 4 = .ok (.bipush (-9), 2) := by decide +kernel
theorem dX12_back_6 : decode cX12_back 6 = .ok (.if_icmp .eq 10, 3) := by decide +kernel
theorem dX12_back_9 : decode cX12_back 9 = .ok (.aload_n 0, 1) := by decide +kernel
theorem dX12_back_10 : decode cX12_back 10 = .ok (.getfield 291, 3) := by decide +kernel
theorem dX12_back_13 : decode cX12_back 13 = .ok (.ifCond .ne 6, 3) := by decide +kernel
theorem dX12_back_16 : decode cX12_back 16 = .ok (.bipush (-5), 2) := by decide +kernel
theorem dX12_back_18 : decode cX12_back 18 = .ok (.ireturn, 1) := by decide +kernel
theorem dX12_back_19 : decode cX12_back 19 = .ok (.aload_n 0, 1) := by decide +kernel
theorem dX12_back_20 : decode cX12_back 20 = .ok (.dup, 1) := by decide +kernel
theorem dX12_back_21 : decode cX12_back 21 = .ok (.getfield 291, 3) := by decide +kernel
theorem dX12_back_24 : decode cX12_back 24 = .ok (.iconst 1, 1) := by decide +kernel
theorem dX12_back_25 : decode cX12_back 25 = .ok (.isub, 1) := by decide +kernel
theorem dX12_back_26 : decode cX12_back 26 = .ok (.putfield 291, 3) := by decide +kernel
theorem dX12_back_29 : decode cX12_back 29 = .ok (.iconst 0, 1) := by decide +kernel
theorem dX12_back_30 : decode cX12_back 30 = .ok (.istore_n 1, 1) := by decide +kernel
theorem dX12_back_31 : decode cX12_back 31 = .ok (.iload_n 1, 1) := by decide +kernel
theorem dX12_back_32 : decode cX12_back 32 = .ok (.bipush 30, 2) := by decide +kernel
theorem dX12_back_34 : decode cX12_back 34 = .ok (.if_icmp .ge 89, 3) := by decide +kernel
theorem dX12_back_37 : decode cX12_back 37 = .ok (.aload_n 0, 1) := by decide +kernel
theorem dX12_back_38 : decode cX12_back 38 = .ok (.getfield 50, 3) := by decide +kernel
theorem dX12_back_41 : decode cX12_back 41 = .ok (.iload_n 1, 1) := by decide +kernel
theorem dX12_back_42 : decode cX12_back 42 = .ok (.aload_n 0, 1) := by decide +kernel
theorem dX12_back_43 : decode cX12_back 43 = .ok (.getfield 65, 3) := by decide +kernel
theorem dX12_back_46 : decode cX12_back 46 = .ok (.bipush 30, 2) := by decide +kernel
theorem dX12_back_48 : decode cX12_back 48 = .ok (.aload_n 0, 1) := by decide +kernel
theorem dX12_back_49 : decode cX12_back 49 = .ok (.getfield 291, 3) := by decide +kernel
theorem dX12_back_52 : decode cX12_back 52 = .ok (.imul, 1) := by decide +kernel
theorem dX12_back_53 : decode cX12_back 53 = .ok (.iload_n 1, 1) := by decide +kernel
theorem dX12_back_54 : decode cX12_back 54 = .ok (.iadd, 1) := by decide +kernel
theorem dX12_back_55 : decode cX12_back 55 = .ok (.iaload, 1) := by decide +kernel
theorem dX12_back_56 : decode cX12_back 56 = .ok (.iastore, 1) := by decide +kernel
theorem dX12_back_57 : decode cX12_back 57 = .ok (.aload_n 0, 1) := by decide +kernel
theorem dX12_back_58 : decode cX12_back 58 = .ok (.getfield 53, 3) := by decide +kernel
theorem dX12_back_61 : decode cX12_back 61 = .ok (.iload_n 1, 1) := by decide +kernel
theorem dX12_back_62 : decode cX12_back 62 = .ok (.aload_n 0, 1) := by decide +kernel
theorem dX12_back_63 : decode cX12_back 63 = .ok (.getfield 68, 3) := by decide +kernel
theorem dX12_back_66 : decode cX12_back 66 = .ok (.bipush 30, 2) := by decide +kernel
theorem dX12_back_68 : decode cX12_back 68 = .ok (.aload_n 0, 1) := by decide +kernel
theorem dX12_back_69 : decode cX12_back 69 = .ok (.getfield 291, 3) := by decide +kernel
theorem dX12_back_72 : decode cX12_back 72 = .ok (.imul, 1) := by decide +kernel
theorem dX12_back_73 : decode cX12_back 73 = .ok (.iload_n 1, 1) := by decide +kernel
theorem dX12_back_74 : decode cX12_back 74 = .ok (.iadd, 1) := by decide +kernel
theorem dX12_back_75 : decode cX12_back 75 = .ok (.iaload, 1) := by decide +kernel
theorem dX12_back_76 : decode cX12_back 76 = .ok (.iastore, 1) := by decide +kernel
theorem dX12_back_77 : decode cX12_back 77 = .ok (.aload_n 0, 1) := by decide +kernel
theorem dX12_back_78 : decode cX12_back 78 = .ok (.getfield 56, 3) := by decide +kernel
theorem dX12_back_81 : decode cX12_back 81 = .ok (.iload_n 1, 1) := by decide +kernel
theorem dX12_back_82 : decode cX12_back 82 = .ok (.aload_n 0, 1) := by decide +kernel
theorem dX12_back_83 : decode cX12_back 83 = .ok (.getfield 71, 3) := by decide +kernel
theorem dX12_back_86 : decode cX12_back 86 = .ok (.bipush 30, 2) := by decide +kernel
theorem dX12_back_88 : decode cX12_back 88 = .ok (.aload_n 0, 1) := by decide +kernel
theorem dX12_back_89 : decode cX12_back 89 = .ok (.getfield 291, 3) := by decide +kernel
theorem dX12_back_92 : decode cX12_back 92 = .ok (.imul, 1) := by decide +kernel
theorem dX12_back_93 : decode cX12_back 93 = .ok (.iload_n 1, 1) := by decide +kernel
theorem dX12_back_94 : decode cX12_back 94 = .ok (.iadd, 1) := by decide +kernel
theorem dX12_back_95 : decode cX12_back 95 = .ok (.baload, 1) := by decide +kernel
theorem dX12_back_96 : decode cX12_back 96 = .ok (.bastore, 1) := by decide +kernel
theorem dX12_back_97 : decode cX12_back 97 = .ok (.aload_n 0, 1) := by decide +kernel
theorem dX12_back_98 : decode cX12_back 98 = .ok (.getfield 59, 3) := by decide +kernel
theorem dX12_back_101 : decode cX12_back 101 = .ok (.iload_n 1, 1) := by decide +kernel
theorem dX12_back_102 : decode cX12_back 102 = .ok (.aload_n 0, 1) := by decide +kernel
theorem dX12_back_103 : decode cX12_back 103 = .ok (.getfield 74, 3) := by decide +kernel
theorem dX12_back_106 : decode cX12_back 106 = .ok (.bipush 30, 2) := by decide +kernel
theorem dX12_back_108 : decode cX12_back 108 = .ok (.aload_n 0, 1) := by decide +kernel
theorem dX12_back_109 : decode cX12_back 109 = .ok (.getfield 291, 3) := by decide +kernel
theorem dX12_back_112 : decode cX12_back 112 = .ok (.imul, 1) := by decide +kernel
theorem dX12_back_113 : decode cX12_back 113 = .ok (.iload_n 1, 1) := by decide +kernel
theorem dX12_back_114 : decode cX12_back 114 = .ok (.iadd, 1) := by decide +kernel
theorem dX12_back_115 : decode cX12_back 115 = .ok (.baload, 1) := by decide +kernel
theorem dX12_back_116 : decode cX12_back 116 = .ok (.bastore, 1) := by decide +kernel
theorem dX12_back_117 : decode cX12_back 117 = .ok (.iinc 1 1, 3) := by decide +kernel
theorem dX12_back_120 : decode cX12_back 120 = .ok (.goto (-89), 3) := by decide +kernel
theorem dX12_back_123 : decode cX12_back 123 = .ok (.aload_n 0, 1) := by decide +kernel
theorem dX12_back_124 : decode cX12_back 124 = .ok (.getfield 291, 3) := by decide +kernel
theorem dX12_back_127 : decode cX12_back 127 = .ok (.ireturn, 1) := by decide +kernel
theorem dX12_told_0 : decode cX12_told 0 = .ok (.iload_n 2, 1) := by decide +kernel
theorem dX12_told_1 : decode cX12_told 1 = .ok (.tableswitch 139 0 5 #[39, 46, 53, 81, 109, 124], 39) := by decide +kernel
theorem dX12_told_40 : decode cX12_told 40 = .ok (.aload_n 0, 1) := by decide +kernel
theorem dX12_told_41 : decode cX12_told 41 = .ok (.getfield 50, 3) := by decide +kernel
theorem dX12_told_44 : decode cX12_told 44 = .ok (.iload_n 1, 1) := by decide +kernel
theorem dX12_told_45 : decode cX12_told 45 = .ok (.iaload, 1) := by decide +kernel
theorem dX12_told_46 : decode cX12_told 46 = .ok (.ireturn, 1) := by decide +kernel
theorem dX12_told_47 : decode cX12_told 47 = .ok (.aload_n 0, 1) := by decide +kernel
theorem dX12_told_48 : decode cX12_told 48 = .ok (.getfield 53, 3) := by decide +kernel
theorem dX12_told_51 : decode cX12_told 51 = .ok (.iload_n 1, 1) := by decide +kernel
theorem dX12_told_52 : decode cX12_told 52 = .ok (.iaload, 1) := by decide +kernel
theorem dX12_told_53 : decode cX12_told 53 = .ok (.ireturn, 1) := by decide +kernel
theorem dX12_told_54 : decode cX12_told 54 = .ok (.aload_n 0, 1) := by decide +kernel
theorem dX12_told_55 : decode cX12_told 55 = .ok (.iload_n 1, 1) := by decide +kernel
theorem dX12_told_56 : decode cX12_told 56 = .ok (.invokevirtual 191, 3) := by decide +kernel
theorem dX12_told_59 : decode cX12_told 59 = .ok (.ifCond .eq 20, 3) := by decide +kernel
theorem dX12_told_62 : decode cX12_told 62 = .ok (.aload_n 0, 1) := by decide +kernel
theorem dX12_told_63 : decode cX12_told 63 = .ok (.getfield 56, 3) := by decide +kernel
theorem dX12_told_66 : decode cX12_told 66 = .ok (.iload_n 1, 1) := by decide +kernel
theorem dX12_told_67 : decode cX12_told 67 = .ok (.baload, 1) := by decide +kernel
theorem dX12_told_68 : decode cX12_told 68 = .ok (.ifCond .eq 7, 3) := by decide +kernel
theorem dX12_told_71 : decode cX12_told 71 = .ok (.iconst 1, 1) := by decide +kernel
theorem dX12_told_72 : decode cX12_told 72 = .ok (.goto 9, 3) := by decide +kernel
theorem dX12_told_75 : decode cX12_told 75 = .ok (.iconst 0, 1) := by decide +kernel
theorem dX12_told_76 : decode cX12_told 76 = .ok (.goto 5, 3) := by decide +kernel
theorem dX12_told_79 : decode cX12_told 79 = .ok (.bipush (-9), 2) := by decide +kernel
theorem dX12_told_81 : decode cX12_told 81 = .ok (.ireturn, 1) := by decide +kernel
theorem dX12_told_82 : decode cX12_told 82 = .ok (.aload_n 0, 1) := by decide +kernel
theorem dX12_told_83 : decode cX12_told 83 = .ok (.iload_n 1, 1) := by decide +kernel
theorem dX12_told_84 : decode cX12_told 84 = .ok (.invokevirtual 191, 3) := by decide +kernel
theorem dX12_told_87 : decode cX12_told 87 = .ok (.ifCond .eq 20, 3) := by decide +kernel
theorem dX12_told_90 : decode cX12_told 90 = .ok (.aload_n 0, 1) := by decide +kernel
theorem dX12_told_91 : decode cX12_told 91 = .ok (.getfield 59, 3) := by decide +kernel
theorem dX12_told_94 : decode cX12_told 94 = .ok (.iload_n 1, 1) := by decide +kernel
theorem dX12_told_95 : decode cX12_told 95 = .ok (.baload, 1) := by decide +kernel
theorem dX12_told_96 : decode cX12_told 96 = .ok (.ifCond .eq 7, 3) := by decide +kernel
theorem dX12_told_99 : decode cX12_told 99 = .ok (.iconst 1, 1) := by decide +kernel
theorem dX12_told_100 : decode cX12_told 100 = .ok (.goto 9, 3) := by decide +kernel
theorem dX12_told_103 : decode cX12_told 103 = .ok (.iconst 0, 1) := by decide +kernel
theorem dX12_told_104 : decode cX12_told 104 = .ok (.goto 5, 3) := by decide +kernel
theorem dX12_told_107 : decode cX12_told 107 = .ok (.bipush (-9), 2) := by decide +kernel
theorem dX12_told_109 : decode cX12_told 109 = .ok (.ireturn, 1) := by decide +kernel
theorem dX12_told_110 : decode cX12_told 110 = .ok (.aload_n 0, 1) := by decide +kernel
theorem dX12_told_111 : decode cX12_told 111 = .ok (.getfield 86, 3) := by decide +kernel
theorem dX12_told_114 : decode cX12_told 114 = .ok (.iload_n 1, 1) := by decide +kernel
theorem dX12_told_115 : decode cX12_told 115 = .ok (.baload, 1) := by decide +kernel
theorem dX12_told_116 : decode cX12_told 116 = .ok (.ifCond .eq 7, 3) := by decide +kernel
theorem dX12_told_119 : decode cX12_told 119 = .ok (.iconst 1, 1) := by decide +kernel
theorem dX12_told_120 : decode cX12_told 120 = .ok (.goto 4, 3) := by decide +kernel
theorem dX12_told_123 : decode cX12_told 123 = .ok (.iconst 0, 1) := by decide +kernel
theorem dX12_told_124 : decode cX12_told 124 = .ok (.ireturn, 1) := by decide +kernel
theorem dX12_told_125 : decode cX12_told 125 = .ok (.aload_n 0, 1) := by decide +kernel
theorem dX12_told_126 : decode cX12_told 126 = .ok (.getfield 89, 3) := by decide +kernel
theorem dX12_told_129 : decode cX12_told 129 = .ok (.iload_n 1, 1) := by decide +kernel
theorem dX12_told_130 : decode cX12_told 130 = .ok (.baload, 1) := by decide +kernel
theorem dX12_told_131 : decode cX12_told 131 = .ok (.ifCond .eq 7, 3) := by decide +kernel
theorem dX12_told_134 : decode cX12_told 134 = .ok (.iconst 1, 1) := by decide +kernel
theorem dX12_told_135 : decode cX12_told 135 = .ok (.goto 4, 3) := by decide +kernel
theorem dX12_told_138 : decode cX12_told 138 = .ok (.iconst 0, 1) := by decide +kernel
theorem dX12_told_139 : decode cX12_told 139 = .ok (.ireturn, 1) := by decide +kernel
theorem dX12_told_140 : decode cX12_told 140 = .ok (.aload_n 0, 1) := by decide +kernel
theorem dX12_told_141 : decode cX12_told 141 = .ok (.iload_n 1, 1) := by decide +kernel
theorem dX12_told_142 : decode cX12_told 142 = .ok (.invokevirtual 404, 3) := by decide +kernel
theorem dX12_told_145 : decode cX12_told 145 = .ok (.ireturn, 1) := by decide +kernel
theorem dX12_now_0 : decode cX12_now 0 = .ok (.aload_n 0, 1) := by decide +kernel
theorem dX12_now_1 : decode cX12_now 1 = .ok (.iload_n 1, 1) := by decide +kernel
theorem dX12_now_2 : decode cX12_now 2 = .ok (.invokevirtual 180, 3) := by decide +kernel
theorem dX12_now_5 : decode cX12_now 5 = .ok (.ifCond .eq 15, 3) := by decide +kernel
theorem dX12_now_8 : decode cX12_now 8 = .ok (.iload_n 2, 1) := by decide +kernel
theorem dX12_now_9 : decode cX12_now 9 = .ok (.i2l, 1) := by decide +kernel
theorem dX12_now_10 : decode cX12_now 10 = .ok (.lconst 0, 1) := by decide +kernel
theorem dX12_now_11 : decode cX12_now 11 = .ok (.ldc2_w 164, 3) := by decide +kernel
theorem dX12_now_14 : decode cX12_now 14 = .ok (.invokestatic 166, 3) := by decide +kernel
theorem dX12_now_17 : decode cX12_now 17 = .ok (.ifCond .ne 5, 3) := by decide +kernel
theorem dX12_now_20 : decode cX12_now 20 = .ok (.iconst (-1), 1) := by decide +kernel
theorem dX12_now_21 : decode cX12_now 21 = .ok (.ireturn, 1) := by decide +kernel
theorem dX12_now_22 : decode cX12_now 22 = .ok (.aload_n 0, 1) := by decide +kernel
theorem dX12_now_23 : decode cX12_now 23 = .ok (.getfield 155, 3) := by decide +kernel
theorem dX12_now_26 : decode cX12_now 26 = .ok (.bipush (-9), 2) := by decide +kernel
theorem dX12_now_28 : decode cX12_now 28 = .ok (.if_icmp .ne 6, 3) := by decide +kernel
theorem dX12_now_31 : decode cX12_now 31 = .ok (.bipush (-5), 2) := by decide +kernel
theorem dX12_now_33 : decode cX12_now 33 = .ok (.ireturn, 1) := by decide +kernel
theorem dX12_now_34 : decode cX12_now 34 = .ok (.aload_n 0, 1) := by decide +kernel
theorem dX12_now_35 : decode cX12_now 35 = .ok (.invokevirtual 392, 3) := by decide +kernel
theorem dX12_now_38 : decode cX12_now 38 = .ok (.aload_n 0, 1) := by decide +kernel
theorem dX12_now_39 : decode cX12_now 39 = .ok (.invokevirtual 395, 3) := by decide +kernel
theorem dX12_now_42 : decode cX12_now 42 = .ok (.aload_n 0, 1) := by decide +kernel
theorem dX12_now_43 : decode cX12_now 43 = .ok (.iload_n 1, 1) := by decide +kernel
theorem dX12_now_44 : decode cX12_now 44 = .ok (.iload_n 2, 1) := by decide +kernel
theorem dX12_now_45 : decode cX12_now 45 = .ok (.invokevirtual 407, 3) := by decide +kernel
theorem dX12_now_48 : decode cX12_now 48 = .ok (.ireturn, 1) := by decide +kernel
theorem dX12_turn_0 : decode cX12_turn 0 = .ok (.iload_n 1, 1) := by decide +kernel
theorem dX12_turn_1 : decode cX12_turn 1 = .ok (.ifCond .lt 15, 3) := by decide +kernel
theorem dX12_turn_4 : decode cX12_turn 4 = .ok (.iload_n 2, 1) := by decide +kernel
theorem dX12_turn_5 : decode cX12_turn 5 = .ok (.i2l, 1) := by decide +kernel
theorem dX12_turn_6 : decode cX12_turn 6 = .ok (.lconst 0, 1) := by decide +kernel
theorem dX12_turn_7 : decode cX12_turn 7 = .ok (.ldc2_w 254, 3) := by decide +kernel
theorem dX12_turn_10 : decode cX12_turn 10 = .ok (.invokestatic 166, 3) := by decide +kernel
theorem dX12_turn_13 : decode cX12_turn 13 = .ok (.ifCond .ne 5, 3) := by decide +kernel
theorem dX12_turn_16 : decode cX12_turn 16 = .ok (.iconst (-1), 1) := by decide +kernel
theorem dX12_turn_17 : decode cX12_turn 17 = .ok (.ireturn, 1) := by decide +kernel
theorem dX12_turn_18 : decode cX12_turn 18 = .ok (.aload_n 0, 1) := by decide +kernel
theorem dX12_turn_19 : decode cX12_turn 19 = .ok (.getfield 155, 3) := by decide +kernel
theorem dX12_turn_22 : decode cX12_turn 22 = .ok (.bipush (-9), 2) := by decide +kernel
theorem dX12_turn_24 : decode cX12_turn 24 = .ok (.if_icmp .ne 6, 3) := by decide +kernel
theorem dX12_turn_27 : decode cX12_turn 27 = .ok (.bipush (-5), 2) := by decide +kernel
theorem dX12_turn_29 : decode cX12_turn 29 = .ok (.ireturn, 1) := by decide +kernel
theorem dX12_turn_30 : decode cX12_turn 30 = .ok (.iload_n 1, 1) := by decide +kernel
theorem dX12_turn_31 : decode cX12_turn 31 = .ok (.aload_n 0, 1) := by decide +kernel
theorem dX12_turn_32 : decode cX12_turn 32 = .ok (.getfield 291, 3) := by decide +kernel
theorem dX12_turn_35 : decode cX12_turn 35 = .ok (.if_icmp .ge 16, 3) := by decide +kernel
theorem dX12_turn_38 : decode cX12_turn 38 = .ok (.aload_n 0, 1) := by decide +kernel
theorem dX12_turn_39 : decode cX12_turn 39 = .ok (.getfield 62, 3) := by decide +kernel
theorem dX12_turn_42 : decode cX12_turn 42 = .ok (.iconst 3, 1) := by decide +kernel
theorem dX12_turn_43 : decode cX12_turn 43 = .ok (.iload_n 1, 1) := by decide +kernel
theorem dX12_turn_44 : decode cX12_turn 44 = .ok (.imul, 1) := by decide +kernel
theorem dX12_turn_45 : decode cX12_turn 45 = .ok (.iload_n 2, 1) := by decide +kernel
theorem dX12_turn_46 : decode cX12_turn 46 = .ok (.iadd, 1) := by decide +kernel
theorem dX12_turn_47 : decode cX12_turn 47 = .ok (.iaload, 1) := by decide +kernel
theorem dX12_turn_48 : decode cX12_turn 48 = .ok (.goto 4, 3) := by decide +kernel
theorem dX12_turn_51 : decode cX12_turn 51 = .ok (.iconst (-1), 1) := by decide +kernel
theorem dX12_turn_52 : decode cX12_turn 52 = .ok (.ireturn, 1) := by decide +kernel
theorem dX12_light_0 : decode cX12_light 0 = .ok (.aload_n 0, 1) := by decide +kernel
theorem dX12_light_1 : decode cX12_light 1 = .ok (.getfield 155, 3) := by decide +kernel
theorem dX12_light_4 : decode cX12_light 4 = .ok (.bipush (-9), 2) := by decide +kernel
theorem dX12_light_6 : decode cX12_light 6 = .ok (.if_icmp .ne 6, 3) := by decide +kernel
theorem dX12_light_9 : decode cX12_light 9 = .ok (.bipush (-5), 2) := by decide +kernel
theorem dX12_light_11 : decode cX12_light 11 = .ok (.ireturn, 1) := by decide +kernel
theorem dX12_light_12 : decode cX12_light 12 = .ok (.aload_n 0, 1) := by decide +kernel
theorem dX12_light_13 : decode cX12_light 13 = .ok (.invokevirtual 392, 3) := by decide +kernel
theorem dX12_light_16 : decode cX12_light 16 = .ok (.aload_n 0, 1) := by decide +kernel
theorem dX12_light_17 : decode cX12_light 17 = .ok (.invokevirtual 395, 3) := by decide +kernel
theorem dX12_light_20 : decode cX12_light 20 = .ok (.aload_n 0, 1) := by decide +kernel
theorem dX12_light_21 : decode cX12_light 21 = .ok (.getfield 341, 3) := by decide +kernel
theorem dX12_light_24 : decode cX12_light 24 = .ok (.ifCond .eq 7, 3) := by decide +kernel
theorem dX12_light_27 : decode cX12_light 27 = .ok (.iconst 1, 1) := by decide +kernel
theorem dX12_light_28 : decode cX12_light 28 = .ok (.goto 4, 3) := by decide +kernel
theorem dX12_light_31 : decode cX12_light 31 = .ok (.iconst 0, 1) := by decide +kernel
theorem dX12_light_32 : decode cX12_light 32 = .ok (.ireturn, 1) := by decide +kernel
theorem dX12_keepState_0 : decode cX12_keepState 0 = .ok (.iconst 0, 1) := by decide +kernel
theorem dX12_keepState_1 : decode cX12_keepState 1 = .ok (.istore_n 2, 1) := by decide +kernel
theorem dX12_keepState_2 : decode cX12_keepState 2 = .ok (.iload_n 2, 1) := by decide +kernel
theorem dX12_keepState_3 : decode cX12_keepState 3 = .ok (.aload_n 0, 1) := by decide +kernel
theorem dX12_keepState_4 : decode cX12_keepState 4 = .ok (.getfield 177, 3) := by decide +kernel
theorem dX12_keepState_7 : decode cX12_keepState 7 = .ok (.if_icmp .ge 86, 3) := by decide +kernel
theorem dX12_keepState_10 : decode cX12_keepState 10 = .ok (.aload_n 0, 1) := by decide +kernel
theorem dX12_keepState_11 : decode cX12_keepState 11 = .ok (.getfield 107, 3) := by decide +kernel
theorem dX12_keepState_14 : decode cX12_keepState 14 = .ok (.bipush 30, 2) := by decide +kernel
theorem dX12_keepState_16 : decode cX12_keepState 16 = .ok (.iload_n 1, 1) := by decide +kernel
theorem dX12_keepState_17 : decode cX12_keepState 17 = .ok (.imul, 1) := by decide +kernel
theorem dX12_keepState_18 : decode cX12_keepState 18 = .ok (.iload_n 2, 1) := by decide +kernel
theorem dX12_keepState_19 : decode cX12_keepState 19 = .ok (.iadd, 1) := by decide +kernel
theorem dX12_keepState_20 : decode cX12_keepState 20 = .ok (.aload_n 0, 1) := by decide +kernel
theorem dX12_keepState_21 : decode cX12_keepState 21 = .ok (.getfield 50, 3) := by decide +kernel
theorem dX12_keepState_24 : decode cX12_keepState 24 = .ok (.iload_n 2, 1) := by decide +kernel
theorem dX12_keepState_25 : decode cX12_keepState 25 = .ok (.iaload, 1) := by decide +kernel
theorem dX12_keepState_26 : decode cX12_keepState 26 = .ok (.i2b, 1) := by decide +kernel
theorem dX12_keepState_27 : decode cX12_keepState 27 = .ok (.bastore, 1) := by decide +kernel
theorem dX12_keepState_28 : decode cX12_keepState 28 = .ok (.aload_n 0, 1) := by decide +kernel
theorem dX12_keepState_29 : decode cX12_keepState 29 = .ok (.getfield 111, 3) := by decide +kernel
theorem dX12_keepState_32 : decode cX12_keepState 32 = .ok (.bipush 30, 2) := by decide +kernel
theorem dX12_keepState_34 : decode cX12_keepState 34 = .ok (.iload_n 1, 1) := by decide +kernel
theorem dX12_keepState_35 : decode cX12_keepState 35 = .ok (.imul, 1) := by decide +kernel
theorem dX12_keepState_36 : decode cX12_keepState 36 = .ok (.iload_n 2, 1) := by decide +kernel
theorem dX12_keepState_37 : decode cX12_keepState 37 = .ok (.iadd, 1) := by decide +kernel
theorem dX12_keepState_38 : decode cX12_keepState 38 = .ok (.aload_n 0, 1) := by decide +kernel
theorem dX12_keepState_39 : decode cX12_keepState 39 = .ok (.getfield 53, 3) := by decide +kernel
theorem dX12_keepState_42 : decode cX12_keepState 42 = .ok (.iload_n 2, 1) := by decide +kernel
theorem dX12_keepState_43 : decode cX12_keepState 43 = .ok (.iaload, 1) := by decide +kernel
theorem dX12_keepState_44 : decode cX12_keepState 44 = .ok (.i2b, 1) := by decide +kernel
theorem dX12_keepState_45 : decode cX12_keepState 45 = .ok (.bastore, 1) := by decide +kernel
theorem dX12_keepState_46 : decode cX12_keepState 46 = .ok (.aload_n 0, 1) := by decide +kernel
theorem dX12_keepState_47 : decode cX12_keepState 47 = .ok (.getfield 114, 3) := by decide +kernel
theorem dX12_keepState_50 : decode cX12_keepState 50 = .ok (.bipush 30, 2) := by decide +kernel
theorem dX12_keepState_52 : decode cX12_keepState 52 = .ok (.iload_n 1, 1) := by decide +kernel
theorem dX12_keepState_53 : decode cX12_keepState 53 = .ok (.imul, 1) := by decide +kernel
theorem dX12_keepState_54 : decode cX12_keepState 54 = .ok (.iload_n 2, 1) := by decide +kernel
theorem dX12_keepState_55 : decode cX12_keepState 55 = .ok (.iadd, 1) := by decide +kernel
theorem dX12_keepState_56 : decode cX12_keepState 56 = .ok (.aload_n 0, 1) := by decide +kernel
theorem dX12_keepState_57 : decode cX12_keepState 57 = .ok (.getfield 56, 3) := by decide +kernel
theorem dX12_keepState_60 : decode cX12_keepState 60 = .ok (.iload_n 2, 1) := by decide +kernel
theorem dX12_keepState_61 : decode cX12_keepState 61 = .ok (.baload, 1) := by decide +kernel
theorem dX12_keepState_62 : decode cX12_keepState 62 = .ok (.ifCond .eq 7, 3) := by decide +kernel
theorem dX12_keepState_65 : decode cX12_keepState 65 = .ok (.iconst 1, 1) := by decide +kernel
theorem dX12_keepState_66 : decode cX12_keepState 66 = .ok (.goto 4, 3) := by decide +kernel
theorem dX12_keepState_69 : decode cX12_keepState 69 = .ok (.iconst 0, 1) := by decide +kernel
theorem dX12_keepState_70 : decode cX12_keepState 70 = .ok (.aload_n 0, 1) := by decide +kernel
theorem dX12_keepState_71 : decode cX12_keepState 71 = .ok (.getfield 59, 3) := by decide +kernel
theorem dX12_keepState_74 : decode cX12_keepState 74 = .ok (.iload_n 2, 1) := by decide +kernel
theorem dX12_keepState_75 : decode cX12_keepState 75 = .ok (.baload, 1) := by decide +kernel
theorem dX12_keepState_76 : decode cX12_keepState 76 = .ok (.ifCond .eq 7, 3) := by decide +kernel
theorem dX12_keepState_79 : decode cX12_keepState 79 = .ok (.iconst 2, 1) := by decide +kernel
theorem dX12_keepState_80 : decode cX12_keepState 80 = .ok (.goto 4, 3) := by decide +kernel
theorem dX12_keepState_83 : decode cX12_keepState 83 = .ok (.iconst 0, 1) := by decide +kernel
theorem dX12_keepState_84 : decode cX12_keepState 84 = .ok (.iadd, 1) := by decide +kernel
theorem dX12_keepState_85 : decode cX12_keepState 85 = .ok (.i2b, 1) := by decide +kernel
theorem dX12_keepState_86 : decode cX12_keepState 86 = .ok (.bastore, 1) := by decide +kernel
theorem dX12_keepState_87 : decode cX12_keepState 87 = .ok (.iinc 2 1, 3) := by decide +kernel
theorem dX12_keepState_90 : decode cX12_keepState 90 = .ok (.goto (-88), 3) := by decide +kernel
theorem dX12_keepState_93 : decode cX12_keepState 93 = .ok (.return_, 1) := by decide +kernel
theorem dX12_giveState_0 : decode cX12_giveState 0 = .ok (.iconst 0, 1) := by decide +kernel
theorem dX12_giveState_1 : decode cX12_giveState 1 = .ok (.istore_n 2, 1) := by decide +kernel
theorem dX12_giveState_2 : decode cX12_giveState 2 = .ok (.iload_n 2, 1) := by decide +kernel
theorem dX12_giveState_3 : decode cX12_giveState 3 = .ok (.aload_n 0, 1) := by decide +kernel
theorem dX12_giveState_4 : decode cX12_giveState 4 = .ok (.getfield 177, 3) := by decide +kernel
theorem dX12_giveState_7 : decode cX12_giveState 7 = .ok (.if_icmp .ge 99, 3) := by decide +kernel
theorem dX12_giveState_10 : decode cX12_giveState 10 = .ok (.aload_n 0, 1) := by decide +kernel
theorem dX12_giveState_11 : decode cX12_giveState 11 = .ok (.getfield 50, 3) := by decide +kernel
theorem dX12_giveState_14 : decode cX12_giveState 14 = .ok (.iload_n 2, 1) := by decide +kernel
theorem dX12_giveState_15 : decode cX12_giveState 15 = .ok (.aload_n 0, 1) := by decide +kernel
theorem dX12_giveState_16 : decode cX12_giveState 16 = .ok (.getfield 107, 3) := by decide +kernel
theorem dX12_giveState_19 : decode cX12_giveState 19 = .ok (.bipush 30, 2) := by decide +kernel
theorem dX12_giveState_21 : decode cX12_giveState 21 = .ok (.iload_n 1, 1) := by decide +kernel
theorem dX12_giveState_22 : decode cX12_giveState 22 = .ok (.imul, 1) := by decide +kernel
theorem dX12_giveState_23 : decode cX12_giveState 23 = .ok (.iload_n 2, 1) := by decide +kernel
theorem dX12_giveState_24 : decode cX12_giveState 24 = .ok (.iadd, 1) := by decide +kernel
theorem dX12_giveState_25 : decode cX12_giveState 25 = .ok (.baload, 1) := by decide +kernel
theorem dX12_giveState_26 : decode cX12_giveState 26 = .ok (.iastore, 1) := by decide +kernel
theorem dX12_giveState_27 : decode cX12_giveState 27 = .ok (.aload_n 0, 1) := by decide +kernel
theorem dX12_giveState_28 : decode cX12_giveState 28 = .ok (.getfield 53, 3) := by decide +kernel
theorem dX12_giveState_31 : decode cX12_giveState 31 = .ok (.iload_n 2, 1) := by decide +kernel
theorem dX12_giveState_32 : decode cX12_giveState 32 = .ok (.aload_n 0, 1) := by decide +kernel
theorem dX12_giveState_33 : decode cX12_giveState 33 = .ok (.getfield 111, 3) := by decide +kernel
theorem dX12_giveState_36 : decode cX12_giveState 36 = .ok (.bipush 30, 2) := by decide +kernel
theorem dX12_giveState_38 : decode cX12_giveState 38 = .ok (.iload_n 1, 1) := by decide +kernel
theorem dX12_giveState_39 : decode cX12_giveState 39 = .ok (.imul, 1) := by decide +kernel
theorem dX12_giveState_40 : decode cX12_giveState 40 = .ok (.iload_n 2, 1) := by decide +kernel
theorem dX12_giveState_41 : decode cX12_giveState 41 = .ok (.iadd, 1) := by decide +kernel
theorem dX12_giveState_42 : decode cX12_giveState 42 = .ok (.baload, 1) := by decide +kernel
theorem dX12_giveState_43 : decode cX12_giveState 43 = .ok (.iastore, 1) := by decide +kernel
theorem dX12_giveState_44 : decode cX12_giveState 44 = .ok (.aload_n 0, 1) := by decide +kernel
theorem dX12_giveState_45 : decode cX12_giveState 45 = .ok (.getfield 56, 3) := by decide +kernel
theorem dX12_giveState_48 : decode cX12_giveState 48 = .ok (.iload_n 2, 1) := by decide +kernel
theorem dX12_giveState_49 : decode cX12_giveState 49 = .ok (.aload_n 0, 1) := by decide +kernel
theorem dX12_giveState_50 : decode cX12_giveState 50 = .ok (.getfield 114, 3) := by decide +kernel
theorem dX12_giveState_53 : decode cX12_giveState 53 = .ok (.bipush 30, 2) := by decide +kernel
theorem dX12_giveState_55 : decode cX12_giveState 55 = .ok (.iload_n 1, 1) := by decide +kernel
theorem dX12_giveState_56 : decode cX12_giveState 56 = .ok (.imul, 1) := by decide +kernel
theorem dX12_giveState_57 : decode cX12_giveState 57 = .ok (.iload_n 2, 1) := by decide +kernel
theorem dX12_giveState_58 : decode cX12_giveState 58 = .ok (.iadd, 1) := by decide +kernel
theorem dX12_giveState_59 : decode cX12_giveState 59 = .ok (.baload, 1) := by decide +kernel
theorem dX12_giveState_60 : decode cX12_giveState 60 = .ok (.iconst 1, 1) := by decide +kernel
theorem dX12_giveState_61 : decode cX12_giveState 61 = .ok (.iand, 1) := by decide +kernel
theorem dX12_giveState_62 : decode cX12_giveState 62 = .ok (.iconst 1, 1) := by decide +kernel
theorem dX12_giveState_63 : decode cX12_giveState 63 = .ok (.if_icmp .ne 7, 3) := by decide +kernel
theorem dX12_giveState_66 : decode cX12_giveState 66 = .ok (.iconst 1, 1) := by decide +kernel
theorem dX12_giveState_67 : decode cX12_giveState 67 = .ok (.goto 4, 3) := by decide +kernel
theorem dX12_giveState_70 : decode cX12_giveState 70 = .ok (.iconst 0, 1) := by decide +kernel
theorem dX12_giveState_71 : decode cX12_giveState 71 = .ok (.bastore, 1) := by decide +kernel
theorem dX12_giveState_72 : decode cX12_giveState 72 = .ok (.aload_n 0, 1) := by decide +kernel
theorem dX12_giveState_73 : decode cX12_giveState 73 = .ok (.getfield 59, 3) := by decide +kernel
theorem dX12_giveState_76 : decode cX12_giveState 76 = .ok (.iload_n 2, 1) := by decide +kernel
theorem dX12_giveState_77 : decode cX12_giveState 77 = .ok (.aload_n 0, 1) := by decide +kernel
theorem dX12_giveState_78 : decode cX12_giveState 78 = .ok (.getfield 114, 3) := by decide +kernel
theorem dX12_giveState_81 : decode cX12_giveState 81 = .ok (.bipush 30, 2) := by decide +kernel
theorem dX12_giveState_83 : decode cX12_giveState 83 = .ok (.iload_n 1, 1) := by decide +kernel
theorem dX12_giveState_84 : decode cX12_giveState 84 = .ok (.imul, 1) := by decide +kernel
theorem dX12_giveState_85 : decode cX12_giveState 85 = .ok (.iload_n 2, 1) := by decide +kernel
theorem dX12_giveState_86 : decode cX12_giveState 86 = .ok (.iadd, 1) := by decide +kernel
theorem dX12_giveState_87 : decode cX12_giveState 87 = .ok (.baload, 1) := by decide +kernel
theorem dX12_giveState_88 : decode cX12_giveState 88 = .ok (.iconst 2, 1) := by decide +kernel
theorem dX12_giveState_89 : decode cX12_giveState 89 = .ok (.iand, 1) := by decide +kernel
theorem dX12_giveState_90 : decode cX12_giveState 90 = .ok (.iconst 2, 1) := by decide +kernel
theorem dX12_giveState_91 : decode cX12_giveState 91 = .ok (.if_icmp .ne 7, 3) := by decide +kernel
theorem dX12_giveState_94 : decode cX12_giveState 94 = .ok (.iconst 1, 1) := by decide +kernel
theorem dX12_giveState_95 : decode cX12_giveState 95 = .ok (.goto 4, 3) := by decide +kernel
theorem dX12_giveState_98 : decode cX12_giveState 98 = .ok (.iconst 0, 1) := by decide +kernel
theorem dX12_giveState_99 : decode cX12_giveState 99 = .ok (.bastore, 1) := by decide +kernel
theorem dX12_giveState_100 : decode cX12_giveState 100 = .ok (.iinc 2 1, 3) := by decide +kernel
theorem dX12_giveState_103 : decode cX12_giveState 103 = .ok (.goto (-101), 3) := by decide +kernel
theorem dX12_giveState_106 : decode cX12_giveState 106 = .ok (.return_, 1) := by decide +kernel
theorem dX12_isState_0 : decode cX12_isState 0 = .ok (.iconst 0, 1) := by decide +kernel
theorem dX12_isState_1 : decode cX12_isState 1 = .ok (.istore_n 2, 1) := by decide +kernel
theorem dX12_isState_2 : decode cX12_isState 2 = .ok (.iload_n 2, 1) := by decide +kernel
theorem dX12_isState_3 : decode cX12_isState 3 = .ok (.aload_n 0, 1) := by decide +kernel
theorem dX12_isState_4 : decode cX12_isState 4 = .ok (.getfield 177, 3) := by decide +kernel
theorem dX12_isState_7 : decode cX12_isState 7 = .ok (.if_icmp .ge 94, 3) := by decide +kernel
theorem dX12_isState_10 : decode cX12_isState 10 = .ok (.aload_n 0, 1) := by decide +kernel
theorem dX12_isState_11 : decode cX12_isState 11 = .ok (.getfield 107, 3) := by decide +kernel
theorem dX12_isState_14 : decode cX12_isState 14 = .ok (.bipush 30, 2) := by decide +kernel
theorem dX12_isState_16 : decode cX12_isState 16 = .ok (.iload_n 1, 1) := by decide +kernel
theorem dX12_isState_17 : decode cX12_isState 17 = .ok (.imul, 1) := by decide +kernel
theorem dX12_isState_18 : decode cX12_isState 18 = .ok (.iload_n 2, 1) := by decide +kernel
theorem dX12_isState_19 : decode cX12_isState 19 = .ok (.iadd, 1) := by decide +kernel
theorem dX12_isState_20 : decode cX12_isState 20 = .ok (.baload, 1) := by decide +kernel
theorem dX12_isState_21 : decode cX12_isState 21 = .ok (.aload_n 0, 1) := by decide +kernel
theorem dX12_isState_22 : decode cX12_isState 22 = .ok (.getfield 50, 3) := by decide +kernel
theorem dX12_isState_25 : decode cX12_isState 25 = .ok (.iload_n 2, 1) := by decide +kernel
theorem dX12_isState_26 : decode cX12_isState 26 = .ok (.iaload, 1) := by decide +kernel
theorem dX12_isState_27 : decode cX12_isState 27 = .ok (.if_icmp .ne 66, 3) := by decide +kernel
theorem dX12_isState_30 : decode cX12_isState 30 = .ok (.aload_n 0, 1) := by decide +kernel
theorem dX12_isState_31 : decode cX12_isState 31 = .ok (.getfield 111, 3) := by decide +kernel
theorem dX12_isState_34 : decode cX12_isState 34 = .ok (.bipush 30, 2) := by decide +kernel
theorem dX12_isState_36 : decode cX12_isState 36 = .ok (.iload_n 1, 1) := by decide +kernel
theorem dX12_isState_37 : decode cX12_isState 37 = .ok (.imul, 1) := by decide +kernel
theorem dX12_isState_38 : decode cX12_isState 38 = .ok (.iload_n 2, 1) := by decide +kernel
theorem dX12_isState_39 : decode cX12_isState 39 = .ok (.iadd, 1) := by decide +kernel
theorem dX12_isState_40 : decode cX12_isState 40 = .ok (.baload, 1) := by decide +kernel
theorem dX12_isState_41 : decode cX12_isState 41 = .ok (.aload_n 0, 1) := by decide +kernel
theorem dX12_isState_42 : decode cX12_isState 42 = .ok (.getfield 53, 3) := by decide +kernel
theorem dX12_isState_45 : decode cX12_isState 45 = .ok (.iload_n 2, 1) := by decide +kernel
