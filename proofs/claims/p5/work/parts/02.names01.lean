theorem dX0_reasonToGo_4 : decode cX0_reasonToGo 4 = .ok (.ifCond .ne 5, 3) := by decide +kernel
theorem dX0_reasonToGo_7 : decode cX0_reasonToGo 7 = .ok (.iconst 1, 1) := by decide +kernel
theorem dX0_reasonToGo_8 : decode cX0_reasonToGo 8 = .ok (.ireturn, 1) := by decide +kernel
theorem dX0_reasonToGo_9 : decode cX0_reasonToGo 9 = .ok (.aload_n 0, 1) := by decide +kernel
theorem dX0_reasonToGo_10 : decode cX0_reasonToGo 10 = .ok (.getfield 33, 3) := by decide +kernel
theorem dX0_reasonToGo_13 : decode cX0_reasonToGo 13 = .ok (.aload_n 0, 1) := by decide +kernel
theorem dX0_reasonToGo_14 : decode cX0_reasonToGo 14 = .ok (.getfield 38, 3) := by decide +kernel
theorem dX0_reasonToGo_17 : decode cX0_reasonToGo 17 = .ok (.invokevirtual 83, 3) := by decide +kernel
theorem dX0_reasonToGo_20 : decode cX0_reasonToGo 20 = .ok (.bipush 10, 2) := by decide +kernel
theorem dX0_reasonToGo_22 : decode cX0_reasonToGo 22 = .ok (.imul, 1) := by decide +kernel
theorem dX0_reasonToGo_23 : decode cX0_reasonToGo 23 = .ok (.iload_n 1, 1) := by decide +kernel
theorem dX0_reasonToGo_24 : decode cX0_reasonToGo 24 = .ok (.iadd, 1) := by decide +kernel
theorem dX0_reasonToGo_25 : decode cX0_reasonToGo 25 = .ok (.istore_n 2, 1) := by decide +kernel
theorem dX0_reasonToGo_26 : decode cX0_reasonToGo 26 = .ok (.aload_n 0, 1) := by decide +kernel
theorem dX0_reasonToGo_27 : decode cX0_reasonToGo 27 = .ok (.getfield 19, 3) := by decide +kernel
theorem dX0_reasonToGo_30 : decode cX0_reasonToGo 30 = .ok (.getfield 95, 3) := by decide +kernel
theorem dX0_reasonToGo_33 : decode cX0_reasonToGo 33 = .ok (.iload_n 2, 1) := by decide +kernel
theorem dX0_reasonToGo_34 : decode cX0_reasonToGo 34 = .ok (.iaload, 1) := by decide +kernel
theorem dX0_reasonToGo_35 : decode cX0_reasonToGo 35 = .ok (.bipush (-9), 2) := by decide +kernel
theorem dX0_reasonToGo_37 : decode cX0_reasonToGo 37 = .ok (.if_icmp .ne 5, 3) := by decide +kernel
theorem dX0_reasonToGo_40 : decode cX0_reasonToGo 40 = .ok (.iconst 2, 1) := by decide +kernel
theorem dX0_reasonToGo_41 : decode cX0_reasonToGo 41 = .ok (.ireturn, 1) := by decide +kernel
theorem dX0_reasonToGo_42 : decode cX0_reasonToGo 42 = .ok (.aload_n 0, 1) := by decide +kernel
theorem dX0_reasonToGo_43 : decode cX0_reasonToGo 43 = .ok (.getfield 19, 3) := by decide +kernel
theorem dX0_reasonToGo_46 : decode cX0_reasonToGo 46 = .ok (.getfield 101, 3) := by decide +kernel
theorem dX0_reasonToGo_49 : decode cX0_reasonToGo 49 = .ok (.iload_n 2, 1) := by decide +kernel
theorem dX0_reasonToGo_50 : decode cX0_reasonToGo 50 = .ok (.iaload, 1) := by decide +kernel
theorem dX0_reasonToGo_51 : decode cX0_reasonToGo 51 = .ok (.istore_n 3, 1) := by decide +kernel
theorem dX0_reasonToGo_52 : decode cX0_reasonToGo 52 = .ok (.iload_n 3, 1) := by decide +kernel
theorem dX0_reasonToGo_53 : decode cX0_reasonToGo 53 = .ok (.bipush (-9), 2) := by decide +kernel
theorem dX0_reasonToGo_55 : decode cX0_reasonToGo 55 = .ok (.if_icmp .eq 19, 3) := by decide +kernel
theorem dX0_reasonToGo_58 : decode cX0_reasonToGo 58 = .ok (.aload_n 0, 1) := by decide +kernel
theorem dX0_reasonToGo_59 : decode cX0_reasonToGo 59 = .ok (.getfield 33, 3) := by decide +kernel
theorem dX0_reasonToGo_62 : decode cX0_reasonToGo 62 = .ok (.iload_n 3, 1) := by decide +kernel
theorem dX0_reasonToGo_63 : decode cX0_reasonToGo 63 = .ok (.iconst 0, 1) := by decide +kernel
theorem dX0_reasonToGo_64 : decode cX0_reasonToGo 64 = .ok (.invokevirtual 104, 3) := by decide +kernel
theorem dX0_reasonToGo_67 : decode cX0_reasonToGo 67 = .ok (.ifCond .ne 7, 3) := by decide +kernel
theorem dX0_reasonToGo_70 : decode cX0_reasonToGo 70 = .ok (.iconst 3, 1) := by decide +kernel
theorem dX0_reasonToGo_71 : decode cX0_reasonToGo 71 = .ok (.goto 4, 3) := by decide +kernel
theorem dX0_reasonToGo_74 : decode cX0_reasonToGo 74 = .ok (.iconst 0, 1) := by decide +kernel
theorem dX0_reasonToGo_75 : decode cX0_reasonToGo 75 = .ok (.ireturn, 1) := by decide +kernel
theorem dX0_reasonToTake_0 : decode cX0_reasonToTake 0 = .ok (.aload_n 0, 1) := by decide +kernel
theorem dX0_reasonToTake_1 : decode cX0_reasonToTake 1 = .ok (.getfield 34, 3) := by decide +kernel
theorem dX0_reasonToTake_4 : decode cX0_reasonToTake 4 = .ok (.getfield 108, 3) := by decide +kernel
theorem dX0_reasonToTake_7 : decode cX0_reasonToTake 7 = .ok (.iload_n 1, 1) := by decide +kernel
theorem dX0_reasonToTake_8 : decode cX0_reasonToTake 8 = .ok (.baload, 1) := by decide +kernel
theorem dX0_reasonToTake_9 : decode cX0_reasonToTake 9 = .ok (.ifCond .ne 5, 3) := by decide +kernel
theorem dX0_reasonToTake_12 : decode cX0_reasonToTake 12 = .ok (.iconst 4, 1) := by decide +kernel
theorem dX0_reasonToTake_13 : decode cX0_reasonToTake 13 = .ok (.ireturn, 1) := by decide +kernel
theorem dX0_reasonToTake_14 : decode cX0_reasonToTake 14 = .ok (.iload_n 1, 1) := by decide +kernel
theorem dX0_reasonToTake_15 : decode cX0_reasonToTake 15 = .ok (.aload_n 0, 1) := by decide +kernel
theorem dX0_reasonToTake_16 : decode cX0_reasonToTake 16 = .ok (.getfield 38, 3) := by decide +kernel
theorem dX0_reasonToTake_19 : decode cX0_reasonToTake 19 = .ok (.if_icmp .eq 18, 3) := by decide +kernel
theorem dX0_reasonToTake_22 : decode cX0_reasonToTake 22 = .ok (.aload_n 0, 1) := by decide +kernel
theorem dX0_reasonToTake_23 : decode cX0_reasonToTake 23 = .ok (.getfield 33, 3) := by decide +kernel
theorem dX0_reasonToTake_26 : decode cX0_reasonToTake 26 = .ok (.iload_n 1, 1) := by decide +kernel
theorem dX0_reasonToTake_27 : decode cX0_reasonToTake 27 = .ok (.aload_n 0, 1) := by decide +kernel
theorem dX0_reasonToTake_28 : decode cX0_reasonToTake 28 = .ok (.getfield 38, 3) := by decide +kernel
theorem dX0_reasonToTake_31 : decode cX0_reasonToTake 31 = .ok (.invokevirtual 112, 3) := by decide +kernel
theorem dX0_reasonToTake_34 : decode cX0_reasonToTake 34 = .ok (.ifCond .eq 5, 3) := by decide +kernel
theorem dX0_reasonToTake_37 : decode cX0_reasonToTake 37 = .ok (.iconst 5, 1) := by decide +kernel
theorem dX0_reasonToTake_38 : decode cX0_reasonToTake 38 = .ok (.ireturn, 1) := by decide +kernel
theorem dX0_reasonToTake_39 : decode cX0_reasonToTake 39 = .ok (.aload_n 0, 1) := by decide +kernel
theorem dX0_reasonToTake_40 : decode cX0_reasonToTake 40 = .ok (.iload_n 1, 1) := by decide +kernel
theorem dX0_reasonToTake_41 : decode cX0_reasonToTake 41 = .ok (.invokevirtual 49, 3) := by decide +kernel
theorem dX0_reasonToTake_44 : decode cX0_reasonToTake 44 = .ok (.ifCond .eq 6, 3) := by decide +kernel
theorem dX0_reasonToTake_47 : decode cX0_reasonToTake 47 = .ok (.bipush 6, 2) := by decide +kernel
theorem dX0_reasonToTake_49 : decode cX0_reasonToTake 49 = .ok (.ireturn, 1) := by decide +kernel
theorem dX0_reasonToTake_50 : decode cX0_reasonToTake 50 = .ok (.aload_n 0, 1) := by decide +kernel
theorem dX0_reasonToTake_51 : decode cX0_reasonToTake 51 = .ok (.getfield 9, 3) := by decide +kernel
theorem dX0_reasonToTake_54 : decode cX0_reasonToTake 54 = .ok (.iload_n 1, 1) := by decide +kernel
theorem dX0_reasonToTake_55 : decode cX0_reasonToTake 55 = .ok (.invokevirtual 115, 3) := by decide +kernel
theorem dX0_reasonToTake_58 : decode cX0_reasonToTake 58 = .ok (.ifCond .eq 27, 3) := by decide +kernel
theorem dX0_reasonToTake_61 : decode cX0_reasonToTake 61 = .ok (.aload_n 0, 1) := by decide +kernel
theorem dX0_reasonToTake_62 : decode cX0_reasonToTake 62 = .ok (.getfield 33, 3) := by decide +kernel
theorem dX0_reasonToTake_65 : decode cX0_reasonToTake 65 = .ok (.iload_n 1, 1) := by decide +kernel
theorem dX0_reasonToTake_66 : decode cX0_reasonToTake 66 = .ok (.iconst 3, 1) := by decide +kernel
theorem dX0_reasonToTake_67 : decode cX0_reasonToTake 67 = .ok (.invokevirtual 104, 3) := by decide +kernel
theorem dX0_reasonToTake_70 : decode cX0_reasonToTake 70 = .ok (.ifCond .ne 15, 3) := by decide +kernel
theorem dX0_reasonToTake_73 : decode cX0_reasonToTake 73 = .ok (.aload_n 0, 1) := by decide +kernel
theorem dX0_reasonToTake_74 : decode cX0_reasonToTake 74 = .ok (.getfield 33, 3) := by decide +kernel
theorem dX0_reasonToTake_77 : decode cX0_reasonToTake 77 = .ok (.iload_n 1, 1) := by decide +kernel
theorem dX0_reasonToTake_78 : decode cX0_reasonToTake 78 = .ok (.invokevirtual 80, 3) := by decide +kernel
theorem dX0_reasonToTake_81 : decode cX0_reasonToTake 81 = .ok (.iconst 4, 1) := by decide +kernel
theorem dX0_reasonToTake_82 : decode cX0_reasonToTake 82 = .ok (.if_icmp .ne 6, 3) := by decide +kernel
theorem dX0_reasonToTake_85 : decode cX0_reasonToTake 85 = .ok (.bipush 7, 2) := by decide +kernel
theorem dX0_reasonToTake_87 : decode cX0_reasonToTake 87 = .ok (.ireturn, 1) := by decide +kernel
theorem dX0_reasonToTake_88 : decode cX0_reasonToTake 88 = .ok (.aload_n 0, 1) := by decide +kernel
theorem dX0_reasonToTake_89 : decode cX0_reasonToTake 89 = .ok (.getfield 34, 3) := by decide +kernel
theorem dX0_reasonToTake_92 : decode cX0_reasonToTake 92 = .ok (.getfield 118, 3) := by decide +kernel
theorem dX0_reasonToTake_95 : decode cX0_reasonToTake 95 = .ok (.iload_n 1, 1) := by decide +kernel
theorem dX0_reasonToTake_96 : decode cX0_reasonToTake 96 = .ok (.baload, 1) := by decide +kernel
theorem dX0_reasonToTake_97 : decode cX0_reasonToTake 97 = .ok (.ifCond .ne 6, 3) := by decide +kernel
theorem dX0_reasonToTake_100 : decode cX0_reasonToTake 100 = .ok (.bipush 8, 2) := by decide +kernel
theorem dX0_reasonToTake_102 : decode cX0_reasonToTake 102 = .ok (.ireturn, 1) := by decide +kernel
theorem dX0_reasonToTake_103 : decode cX0_reasonToTake 103 = .ok (.aload_n 0, 1) := by decide +kernel
theorem dX0_reasonToTake_104 : decode cX0_reasonToTake 104 = .ok (.iload_n 1, 1) := by decide +kernel
theorem dX0_reasonToTake_105 : decode cX0_reasonToTake 105 = .ok (.invokevirtual 121, 3) := by decide +kernel
theorem dX0_reasonToTake_108 : decode cX0_reasonToTake 108 = .ok (.ifCond .eq 6, 3) := by decide +kernel
theorem dX0_reasonToTake_111 : decode cX0_reasonToTake 111 = .ok (.bipush 9, 2) := by decide +kernel
theorem dX0_reasonToTake_113 : decode cX0_reasonToTake 113 = .ok (.ireturn, 1) := by decide +kernel
theorem dX0_reasonToTake_114 : decode cX0_reasonToTake 114 = .ok (.aload_n 0, 1) := by decide +kernel
theorem dX0_reasonToTake_115 : decode cX0_reasonToTake 115 = .ok (.getfield 23, 3) := by decide +kernel
theorem dX0_reasonToTake_118 : decode cX0_reasonToTake 118 = .ok (.aload_n 0, 1) := by decide +kernel
theorem dX0_reasonToTake_119 : decode cX0_reasonToTake 119 = .ok (.getfield 33, 3) := by decide +kernel
theorem dX0_reasonToTake_122 : decode cX0_reasonToTake 122 = .ok (.iload_n 1, 1) := by decide +kernel
theorem dX0_reasonToTake_123 : decode cX0_reasonToTake 123 = .ok (.iconst 0, 1) := by decide +kernel
theorem dX0_reasonToTake_124 : decode cX0_reasonToTake 124 = .ok (.invokevirtual 124, 3) := by decide +kernel
theorem dX0_reasonToTake_127 : decode cX0_reasonToTake 127 = .ok (.aload_n 0, 1) := by decide +kernel
theorem dX0_reasonToTake_128 : decode cX0_reasonToTake 128 = .ok (.getfield 23, 3) := by decide +kernel
theorem dX0_reasonToTake_131 : decode cX0_reasonToTake 131 = .ok (.aload_n 0, 1) := by decide +kernel
theorem dX0_reasonToTake_132 : decode cX0_reasonToTake 132 = .ok (.getfield 33, 3) := by decide +kernel
theorem dX0_reasonToTake_135 : decode cX0_reasonToTake 135 = .ok (.iconst 2, 1) := by decide +kernel
theorem dX0_reasonToTake_136 : decode cX0_reasonToTake 136 = .ok (.aload_n 0, 1) := by decide +kernel
theorem dX0_reasonToTake_137 : decode cX0_reasonToTake 137 = .ok (.getfield 38, 3) := by decide +kernel
theorem dX0_reasonToTake_140 : decode cX0_reasonToTake 140 = .ok (.iconst 0, 1) := by decide +kernel
theorem dX0_reasonToTake_141 : decode cX0_reasonToTake 141 = .ok (.invokevirtual 130, 3) := by decide +kernel
theorem dX0_reasonToTake_144 : decode cX0_reasonToTake 144 = .ok (.iadd, 1) := by decide +kernel
theorem dX0_reasonToTake_145 : decode cX0_reasonToTake 145 = .ok (.istore_n 2, 1) := by decide +kernel
theorem dX0_reasonToTake_146 : decode cX0_reasonToTake 146 = .ok (.iload_n 2, 1) := by decide +kernel
theorem dX0_reasonToTake_147 : decode cX0_reasonToTake 147 = .ok (.bipush 100, 2) := by decide +kernel
theorem dX0_reasonToTake_149 : decode cX0_reasonToTake 149 = .ok (.if_icmp .le 8, 3) := by decide +kernel
theorem dX0_reasonToTake_152 : decode cX0_reasonToTake 152 = .ok (.bipush 10, 2) := by decide +kernel
theorem dX0_reasonToTake_154 : decode cX0_reasonToTake 154 = .ok (.goto 4, 3) := by decide +kernel
theorem dX0_reasonToTake_157 : decode cX0_reasonToTake 157 = .ok (.iconst 0, 1) := by decide +kernel
theorem dX0_reasonToTake_158 : decode cX0_reasonToTake 158 = .ok (.ireturn, 1) := by decide +kernel
theorem dX0_isAnothers_0 : decode cX0_isAnothers 0 = .ok (.aload_n 0, 1) := by decide +kernel
theorem dX0_isAnothers_1 : decode cX0_isAnothers 1 = .ok (.getfield 33, 3) := by decide +kernel
theorem dX0_isAnothers_4 : decode cX0_isAnothers 4 = .ok (.iload_n 1, 1) := by decide +kernel
theorem dX0_isAnothers_5 : decode cX0_isAnothers 5 = .ok (.invokevirtual 83, 3) := by decide +kernel
theorem dX0_isAnothers_8 : decode cX0_isAnothers 8 = .ok (.istore_n 2, 1) := by decide +kernel
theorem dX0_isAnothers_9 : decode cX0_isAnothers 9 = .ok (.iconst 0, 1) := by decide +kernel
theorem dX0_isAnothers_10 : decode cX0_isAnothers 10 = .ok (.istore_n 3, 1) := by decide +kernel
theorem dX0_isAnothers_11 : decode cX0_isAnothers 11 = .ok (.iload_n 3, 1) := by decide +kernel
theorem dX0_isAnothers_12 : decode cX0_isAnothers 12 = .ok (.bipush 30, 2) := by decide +kernel
theorem dX0_isAnothers_14 : decode cX0_isAnothers 14 = .ok (.if_icmp .ge 46, 3) := by decide +kernel
theorem dX0_isAnothers_17 : decode cX0_isAnothers 17 = .ok (.iload_n 2, 1) := by decide +kernel
theorem dX0_isAnothers_18 : decode cX0_isAnothers 18 = .ok (.bipush (-9), 2) := by decide +kernel
theorem dX0_isAnothers_20 : decode cX0_isAnothers 20 = .ok (.if_icmp .eq 40, 3) := by decide +kernel
theorem dX0_isAnothers_23 : decode cX0_isAnothers 23 = .ok (.iload_n 2, 1) := by decide +kernel
theorem dX0_isAnothers_24 : decode cX0_isAnothers 24 = .ok (.aload_n 0, 1) := by decide +kernel
theorem dX0_isAnothers_25 : decode cX0_isAnothers 25 = .ok (.getfield 38, 3) := by decide +kernel
theorem dX0_isAnothers_28 : decode cX0_isAnothers 28 = .ok (.if_icmp .eq 17, 3) := by decide +kernel
theorem dX0_isAnothers_31 : decode cX0_isAnothers 31 = .ok (.aload_n 0, 1) := by decide +kernel
theorem dX0_isAnothers_32 : decode cX0_isAnothers 32 = .ok (.getfield 9, 3) := by decide +kernel
theorem dX0_isAnothers_35 : decode cX0_isAnothers 35 = .ok (.iload_n 2, 1) := by decide +kernel
theorem dX0_isAnothers_36 : decode cX0_isAnothers 36 = .ok (.invokevirtual 86, 3) := by decide +kernel
theorem dX0_isAnothers_39 : decode cX0_isAnothers 39 = .ok (.iconst 5, 1) := by decide +kernel
theorem dX0_isAnothers_40 : decode cX0_isAnothers 40 = .ok (.if_icmp .ne 5, 3) := by decide +kernel
theorem dX0_isAnothers_43 : decode cX0_isAnothers 43 = .ok (.iconst 1, 1) := by decide +kernel
theorem dX0_isAnothers_44 : decode cX0_isAnothers 44 = .ok (.ireturn, 1) := by decide +kernel
theorem dX0_isAnothers_45 : decode cX0_isAnothers 45 = .ok (.aload_n 0, 1) := by decide +kernel
theorem dX0_isAnothers_46 : decode cX0_isAnothers 46 = .ok (.getfield 33, 3) := by decide +kernel
theorem dX0_isAnothers_49 : decode cX0_isAnothers 49 = .ok (.iload_n 2, 1) := by decide +kernel
theorem dX0_isAnothers_50 : decode cX0_isAnothers 50 = .ok (.invokevirtual 83, 3) := by decide +kernel
theorem dX0_isAnothers_53 : decode cX0_isAnothers 53 = .ok (.istore_n 2, 1) := by decide +kernel
theorem dX0_isAnothers_54 : decode cX0_isAnothers 54 = .ok (.iinc 3 1, 3) := by decide +kernel
theorem dX0_isAnothers_57 : decode cX0_isAnothers 57 = .ok (.goto (-46), 3) := by decide +kernel
theorem dX0_isAnothers_60 : decode cX0_isAnothers 60 = .ok (.iconst 0, 1) := by decide +kernel
theorem dX0_isAnothers_61 : decode cX0_isAnothers 61 = .ok (.ireturn, 1) := by decide +kernel
theorem dX0_reasonToPut_0 : decode cX0_reasonToPut 0 = .ok (.aload_n 0, 1) := by decide +kernel
theorem dX0_reasonToPut_1 : decode cX0_reasonToPut 1 = .ok (.getfield 34, 3) := by decide +kernel
theorem dX0_reasonToPut_4 : decode cX0_reasonToPut 4 = .ok (.getfield 108, 3) := by decide +kernel
theorem dX0_reasonToPut_7 : decode cX0_reasonToPut 7 = .ok (.iload_n 3, 1) := by decide +kernel
theorem dX0_reasonToPut_8 : decode cX0_reasonToPut 8 = .ok (.baload, 1) := by decide +kernel
theorem dX0_reasonToPut_9 : decode cX0_reasonToPut 9 = .ok (.ifCond .ne 5, 3) := by decide +kernel
theorem dX0_reasonToPut_12 : decode cX0_reasonToPut 12 = .ok (.iconst 4, 1) := by decide +kernel
theorem dX0_reasonToPut_13 : decode cX0_reasonToPut 13 = .ok (.ireturn, 1) := by decide +kernel
theorem dX0_reasonToPut_14 : decode cX0_reasonToPut 14 = .ok (.aload_n 0, 1) := by decide +kernel
theorem dX0_reasonToPut_15 : decode cX0_reasonToPut 15 = .ok (.getfield 9, 3) := by decide +kernel
theorem dX0_reasonToPut_18 : decode cX0_reasonToPut 18 = .ok (.iload_n 3, 1) := by decide +kernel
theorem dX0_reasonToPut_19 : decode cX0_reasonToPut 19 = .ok (.invokevirtual 86, 3) := by decide +kernel
theorem dX0_reasonToPut_22 : decode cX0_reasonToPut 22 = .ok (.iload_n 2, 1) := by decide +kernel
theorem dX0_reasonToPut_23 : decode cX0_reasonToPut 23 = .ok (.ifCond .ne 7, 3) := by decide +kernel
theorem dX0_reasonToPut_26 : decode cX0_reasonToPut 26 = .ok (.iconst 3, 1) := by decide +kernel
theorem dX0_reasonToPut_27 : decode cX0_reasonToPut 27 = .ok (.goto 4, 3) := by decide +kernel
theorem dX0_reasonToPut_30 : decode cX0_reasonToPut 30 = .ok (.iconst 4, 1) := by decide +kernel
theorem dX0_reasonToPut_31 : decode cX0_reasonToPut 31 = .ok (.if_icmp .eq 6, 3) := by decide +kernel
theorem dX0_reasonToPut_34 : decode cX0_reasonToPut 34 = .ok (.bipush 12, 2) := by decide +kernel
theorem dX0_reasonToPut_36 : decode cX0_reasonToPut 36 = .ok (.ireturn, 1) := by decide +kernel
theorem dX0_reasonToPut_37 : decode cX0_reasonToPut 37 = .ok (.iload_n 3, 1) := by decide +kernel
theorem dX0_reasonToPut_38 : decode cX0_reasonToPut 38 = .ok (.iload_n 1, 1) := by decide +kernel
theorem dX0_reasonToPut_39 : decode cX0_reasonToPut 39 = .ok (.if_icmp .eq 15, 3) := by decide +kernel
theorem dX0_reasonToPut_42 : decode cX0_reasonToPut 42 = .ok (.aload_n 0, 1) := by decide +kernel
theorem dX0_reasonToPut_43 : decode cX0_reasonToPut 43 = .ok (.getfield 33, 3) := by decide +kernel
theorem dX0_reasonToPut_46 : decode cX0_reasonToPut 46 = .ok (.iload_n 1, 1) := by decide +kernel
theorem dX0_reasonToPut_47 : decode cX0_reasonToPut 47 = .ok (.iload_n 3, 1) := by decide +kernel
theorem dX0_reasonToPut_48 : decode cX0_reasonToPut 48 = .ok (.invokevirtual 112, 3) := by decide +kernel
theorem dX0_reasonToPut_51 : decode cX0_reasonToPut 51 = .ok (.ifCond .eq 6, 3) := by decide +kernel
theorem dX0_reasonToPut_54 : decode cX0_reasonToPut 54 = .ok (.bipush 13, 2) := by decide +kernel
theorem dX0_reasonToPut_56 : decode cX0_reasonToPut 56 = .ok (.ireturn, 1) := by decide +kernel
theorem dX0_reasonToPut_57 : decode cX0_reasonToPut 57 = .ok (.iload_n 2, 1) := by decide +kernel
theorem dX0_reasonToPut_58 : decode cX0_reasonToPut 58 = .ok (.ifCond .ne 17, 3) := by decide +kernel
theorem dX0_reasonToPut_61 : decode cX0_reasonToPut 61 = .ok (.aload_n 0, 1) := by decide +kernel
theorem dX0_reasonToPut_62 : decode cX0_reasonToPut 62 = .ok (.getfield 33, 3) := by decide +kernel
theorem dX0_reasonToPut_65 : decode cX0_reasonToPut 65 = .ok (.iload_n 3, 1) := by decide +kernel
theorem dX0_reasonToPut_66 : decode cX0_reasonToPut 66 = .ok (.iconst 0, 1) := by decide +kernel
theorem dX0_reasonToPut_67 : decode cX0_reasonToPut 67 = .ok (.invokevirtual 104, 3) := by decide +kernel
theorem dX0_reasonToPut_70 : decode cX0_reasonToPut 70 = .ok (.ifCond .ne 5, 3) := by decide +kernel
theorem dX0_reasonToPut_73 : decode cX0_reasonToPut 73 = .ok (.iconst 3, 1) := by decide +kernel
theorem dX0_reasonToPut_74 : decode cX0_reasonToPut 74 = .ok (.ireturn, 1) := by decide +kernel
theorem dX0_reasonToPut_75 : decode cX0_reasonToPut 75 = .ok (.aload_n 0, 1) := by decide +kernel
theorem dX0_reasonToPut_76 : decode cX0_reasonToPut 76 = .ok (.getfield 34, 3) := by decide +kernel
theorem dX0_reasonToPut_79 : decode cX0_reasonToPut 79 = .ok (.getfield 118, 3) := by decide +kernel
theorem dX0_reasonToPut_82 : decode cX0_reasonToPut 82 = .ok (.iload_n 3, 1) := by decide +kernel
theorem dX0_reasonToPut_83 : decode cX0_reasonToPut 83 = .ok (.baload, 1) := by decide +kernel
theorem dX0_reasonToPut_84 : decode cX0_reasonToPut 84 = .ok (.ifCond .ne 6, 3) := by decide +kernel
theorem dX0_reasonToPut_87 : decode cX0_reasonToPut 87 = .ok (.bipush 8, 2) := by decide +kernel
theorem dX0_reasonToPut_89 : decode cX0_reasonToPut 89 = .ok (.ireturn, 1) := by decide +kernel
theorem dX0_reasonToPut_90 : decode cX0_reasonToPut 90 = .ok (.aload_n 0, 1) := by decide +kernel
theorem dX0_reasonToPut_91 : decode cX0_reasonToPut 91 = .ok (.getfield 33, 3) := by decide +kernel
theorem dX0_reasonToPut_94 : decode cX0_reasonToPut 94 = .ok (.iload_n 2, 1) := by decide +kernel
theorem dX0_reasonToPut_95 : decode cX0_reasonToPut 95 = .ok (.iload_n 3, 1) := by decide +kernel
theorem dX0_reasonToPut_96 : decode cX0_reasonToPut 96 = .ok (.invokevirtual 134, 3) := by decide +kernel
theorem dX0_reasonToPut_99 : decode cX0_reasonToPut 99 = .ok (.bipush 8, 2) := by decide +kernel
theorem dX0_reasonToPut_101 : decode cX0_reasonToPut 101 = .ok (.if_icmp .lt 8, 3) := by decide +kernel
theorem dX0_reasonToPut_104 : decode cX0_reasonToPut 104 = .ok (.bipush 14, 2) := by decide +kernel
theorem dX0_reasonToPut_106 : decode cX0_reasonToPut 106 = .ok (.goto 4, 3) := by decide +kernel
theorem dX0_reasonToPut_109 : decode cX0_reasonToPut 109 = .ok (.iconst 0, 1) := by decide +kernel
theorem dX0_reasonToPut_110 : decode cX0_reasonToPut 110 = .ok (.ireturn, 1) := by decide +kernel
theorem dX0_reasonOfShutter_0 : decode cX0_reasonOfShutter 0 = .ok (.aload_n 0, 1) := by decide +kernel
theorem dX0_reasonOfShutter_1 : decode cX0_reasonOfShutter 1 = .ok (.getfield 34, 3) := by decide +kernel
theorem dX0_reasonOfShutter_4 : decode cX0_reasonOfShutter 4 = .ok (.getfield 108, 3) := by decide +kernel
theorem dX0_reasonOfShutter_7 : decode cX0_reasonOfShutter 7 = .ok (.iload_n 2, 1) := by decide +kernel
theorem dX0_reasonOfShutter_8 : decode cX0_reasonOfShutter 8 = .ok (.baload, 1) := by decide +kernel
theorem dX0_reasonOfShutter_9 : decode cX0_reasonOfShutter 9 = .ok (.ifCond .ne 5, 3) := by decide +kernel
theorem dX0_reasonOfShutter_12 : decode cX0_reasonOfShutter 12 = .ok (.iconst 4, 1) := by decide +kernel
theorem dX0_reasonOfShutter_13 : decode cX0_reasonOfShutter 13 = .ok (.ireturn, 1) := by decide +kernel
theorem dX0_reasonOfShutter_14 : decode cX0_reasonOfShutter 14 = .ok (.aload_n 0, 1) := by decide +kernel
theorem dX0_reasonOfShutter_15 : decode cX0_reasonOfShutter 15 = .ok (.getfield 9, 3) := by decide +kernel
theorem dX0_reasonOfShutter_18 : decode cX0_reasonOfShutter 18 = .ok (.iload_n 2, 1) := by decide +kernel
theorem dX0_reasonOfShutter_19 : decode cX0_reasonOfShutter 19 = .ok (.invokevirtual 137, 3) := by decide +kernel
theorem dX0_reasonOfShutter_22 : decode cX0_reasonOfShutter 22 = .ok (.ifCond .ne 6, 3) := by decide +kernel
theorem dX0_reasonOfShutter_25 : decode cX0_reasonOfShutter 25 = .ok (.bipush 12, 2) := by decide +kernel
theorem dX0_reasonOfShutter_27 : decode cX0_reasonOfShutter 27 = .ok (.ireturn, 1) := by decide +kernel
theorem dX0_reasonOfShutter_28 : decode cX0_reasonOfShutter 28 = .ok (.iload_n 1, 1) := by decide +kernel
theorem dX0_reasonOfShutter_29 : decode cX0_reasonOfShutter 29 = .ok (.aload_n 0, 1) := by decide +kernel
theorem dX0_reasonOfShutter_30 : decode cX0_reasonOfShutter 30 = .ok (.getfield 33, 3) := by decide +kernel
theorem dX0_reasonOfShutter_33 : decode cX0_reasonOfShutter 33 = .ok (.iload_n 2, 1) := by decide +kernel
theorem dX0_reasonOfShutter_34 : decode cX0_reasonOfShutter 34 = .ok (.iconst 0, 1) := by decide +kernel
theorem dX0_reasonOfShutter_35 : decode cX0_reasonOfShutter 35 = .ok (.invokevirtual 104, 3) := by decide +kernel
theorem dX0_reasonOfShutter_38 : decode cX0_reasonOfShutter 38 = .ok (.aload_n 0, 1) := by decide +kernel
theorem dX0_reasonOfShutter_39 : decode cX0_reasonOfShutter 39 = .ok (.getfield 33, 3) := by decide +kernel
theorem dX0_reasonOfShutter_42 : decode cX0_reasonOfShutter 42 = .ok (.iload_n 2, 1) := by decide +kernel
theorem dX0_reasonOfShutter_43 : decode cX0_reasonOfShutter 43 = .ok (.iconst 1, 1) := by decide +kernel
theorem dX0_reasonOfShutter_44 : decode cX0_reasonOfShutter 44 = .ok (.invokevirtual 104, 3) := by decide +kernel
theorem dX0_reasonOfShutter_47 : decode cX0_reasonOfShutter 47 = .ok (.invokestatic 140, 3) := by decide +kernel
theorem dX0_reasonOfShutter_50 : decode cX0_reasonOfShutter 50 = .ok (.istore_n 3, 1) := by decide +kernel
theorem dX0_reasonOfShutter_51 : decode cX0_reasonOfShutter 51 = .ok (.iload_n 3, 1) := by decide +kernel
theorem dX0_reasonOfShutter_52 : decode cX0_reasonOfShutter 52 = .ok (.ifCond .eq 5, 3) := by decide +kernel
theorem dX0_reasonOfShutter_55 : decode cX0_reasonOfShutter 55 = .ok (.iload_n 3, 1) := by decide +kernel
theorem dX0_reasonOfShutter_56 : decode cX0_reasonOfShutter 56 = .ok (.ireturn, 1) := by decide +kernel
theorem dX0_reasonOfShutter_57 : decode cX0_reasonOfShutter 57 = .ok (.aload_n 0, 1) := by decide +kernel
theorem dX0_reasonOfShutter_58 : decode cX0_reasonOfShutter 58 = .ok (.getfield 34, 3) := by decide +kernel
theorem dX0_reasonOfShutter_61 : decode cX0_reasonOfShutter 61 = .ok (.getfield 118, 3) := by decide +kernel
theorem dX0_reasonOfShutter_64 : decode cX0_reasonOfShutter 64 = .ok (.iload_n 2, 1) := by decide +kernel
theorem dX0_reasonOfShutter_65 : decode cX0_reasonOfShutter 65 = .ok (.baload, 1) := by decide +kernel
theorem dX0_reasonOfShutter_66 : decode cX0_reasonOfShutter 66 = .ok (.ifCond .eq 7, 3) := by decide +kernel
theorem dX0_reasonOfShutter_69 : decode cX0_reasonOfShutter 69 = .ok (.iconst 0, 1) := by decide +kernel
theorem dX0_reasonOfShutter_70 : decode cX0_reasonOfShutter 70 = .ok (.goto 5, 3) := by decide +kernel
theorem dX0_reasonOfShutter_73 : decode cX0_reasonOfShutter 73 = .ok (.bipush 8, 2) := by decide +kernel
theorem dX0_reasonOfShutter_75 : decode cX0_reasonOfShutter 75 = .ok (.ireturn, 1) := by decide +kernel
theorem dX0_reasonOfLeaf_0 : decode cX0_reasonOfLeaf 0 = .ok (.iload_n 0, 1) := by decide +kernel
theorem dX0_reasonOfLeaf_1 : decode cX0_reasonOfLeaf 1 = .ok (.tableswitch 74 5 7 #[27, 49, 61], 27) := by decide +kernel
theorem dX0_reasonOfLeaf_28 : decode cX0_reasonOfLeaf 28 = .ok (.iload_n 1, 1) := by decide +kernel
theorem dX0_reasonOfLeaf_29 : decode cX0_reasonOfLeaf 29 = .ok (.ifCond .eq 8, 3) := by decide +kernel
theorem dX0_reasonOfLeaf_32 : decode cX0_reasonOfLeaf 32 = .ok (.bipush 15, 2) := by decide +kernel
theorem dX0_reasonOfLeaf_34 : decode cX0_reasonOfLeaf 34 = .ok (.goto 60, 3) := by decide +kernel
theorem dX0_reasonOfLeaf_37 : decode cX0_reasonOfLeaf 37 = .ok (.iload_n 2, 1) := by decide +kernel
theorem dX0_reasonOfLeaf_38 : decode cX0_reasonOfLeaf 38 = .ok (.ifCond .eq 8, 3) := by decide +kernel
theorem dX0_reasonOfLeaf_41 : decode cX0_reasonOfLeaf 41 = .ok (.bipush 16, 2) := by decide +kernel
theorem dX0_reasonOfLeaf_43 : decode cX0_reasonOfLeaf 43 = .ok (.goto 51, 3) := by decide +kernel
theorem dX0_reasonOfLeaf_46 : decode cX0_reasonOfLeaf 46 = .ok (.iconst 0, 1) := by decide +kernel
theorem dX0_reasonOfLeaf_47 : decode cX0_reasonOfLeaf 47 = .ok (.goto 47, 3) := by decide +kernel
theorem dX0_reasonOfLeaf_50 : decode cX0_reasonOfLeaf 50 = .ok (.iload_n 1, 1) := by decide +kernel
theorem dX0_reasonOfLeaf_51 : decode cX0_reasonOfLeaf 51 = .ok (.ifCond .eq 7, 3) := by decide +kernel
theorem dX0_reasonOfLeaf_54 : decode cX0_reasonOfLeaf 54 = .ok (.iconst 0, 1) := by decide +kernel
theorem dX0_reasonOfLeaf_55 : decode cX0_reasonOfLeaf 55 = .ok (.goto 39, 3) := by decide +kernel
theorem dX0_reasonOfLeaf_58 : decode cX0_reasonOfLeaf 58 = .ok (.iconst 3, 1) := by decide +kernel
theorem dX0_reasonOfLeaf_59 : decode cX0_reasonOfLeaf 59 = .ok (.goto 35, 3) := by decide +kernel
theorem dX0_reasonOfLeaf_62 : decode cX0_reasonOfLeaf 62 = .ok (.iload_n 2, 1) := by decide +kernel
theorem dX0_reasonOfLeaf_63 : decode cX0_reasonOfLeaf 63 = .ok (.ifCond .eq 7, 3) := by decide +kernel
theorem dX0_reasonOfLeaf_66 : decode cX0_reasonOfLeaf 66 = .ok (.iconst 0, 1) := by decide +kernel
theorem dX0_reasonOfLeaf_67 : decode cX0_reasonOfLeaf 67 = .ok (.goto 27, 3) := by decide +kernel
theorem dX0_reasonOfLeaf_70 : decode cX0_reasonOfLeaf 70 = .ok (.bipush 17, 2) := by decide +kernel
theorem dX0_reasonOfLeaf_72 : decode cX0_reasonOfLeaf 72 = .ok (.goto 22, 3) := by decide +kernel
theorem dX0_reasonOfLeaf_75 : decode cX0_reasonOfLeaf 75 = .ok (.iload_n 2, 1) := by decide +kernel
theorem dX0_reasonOfLeaf_76 : decode cX0_reasonOfLeaf 76 = .ok (.ifCond .eq 8, 3) := by decide +kernel
theorem dX0_reasonOfLeaf_79 : decode cX0_reasonOfLeaf 79 = .ok (.bipush 16, 2) := by decide +kernel
theorem dX0_reasonOfLeaf_81 : decode cX0_reasonOfLeaf 81 = .ok (.goto 13, 3) := by decide +kernel
theorem dX0_reasonOfLeaf_84 : decode cX0_reasonOfLeaf 84 = .ok (.iload_n 1, 1) := by decide +kernel
theorem dX0_reasonOfLeaf_85 : decode cX0_reasonOfLeaf 85 = .ok (.ifCond .eq 8, 3) := by decide +kernel
theorem dX0_reasonOfLeaf_88 : decode cX0_reasonOfLeaf 88 = .ok (.bipush 15, 2) := by decide +kernel
theorem dX0_reasonOfLeaf_90 : decode cX0_reasonOfLeaf 90 = .ok (.goto 4, 3) := by decide +kernel
theorem dX0_reasonOfLeaf_93 : decode cX0_reasonOfLeaf 93 = .ok (.iconst 0, 1) := by decide +kernel
theorem dX0_reasonOfLeaf_94 : decode cX0_reasonOfLeaf 94 = .ok (.ireturn, 1) := by decide +kernel
theorem dX0_reasonOfKey_0 : decode cX0_reasonOfKey 0 = .ok (.aload_n 0, 1) := by decide +kernel
theorem dX0_reasonOfKey_1 : decode cX0_reasonOfKey 1 = .ok (.iload_n 2, 1) := by decide +kernel
theorem dX0_reasonOfKey_2 : decode cX0_reasonOfKey 2 = .ok (.invokevirtual 49, 3) := by decide +kernel
theorem dX0_reasonOfKey_5 : decode cX0_reasonOfKey 5 = .ok (.ifCond .ne 6, 3) := by decide +kernel
theorem dX0_reasonOfKey_8 : decode cX0_reasonOfKey 8 = .ok (.bipush 11, 2) := by decide +kernel
theorem dX0_reasonOfKey_10 : decode cX0_reasonOfKey 10 = .ok (.ireturn, 1) := by decide +kernel
theorem dX0_reasonOfKey_11 : decode cX0_reasonOfKey 11 = .ok (.aload_n 0, 1) := by decide +kernel
theorem dX0_reasonOfKey_12 : decode cX0_reasonOfKey 12 = .ok (.getfield 15, 3) := by decide +kernel
theorem dX0_reasonOfKey_15 : decode cX0_reasonOfKey 15 = .ok (.iload_n 1, 1) := by decide +kernel
theorem dX0_reasonOfKey_16 : decode cX0_reasonOfKey 16 = .ok (.invokevirtual 144, 3) := by decide +kernel
theorem dX0_reasonOfKey_19 : decode cX0_reasonOfKey 19 = .ok (.iload_n 2, 1) := by decide +kernel
theorem dX0_reasonOfKey_20 : decode cX0_reasonOfKey 20 = .ok (.if_icmp .ne 7, 3) := by decide +kernel
theorem dX0_reasonOfKey_23 : decode cX0_reasonOfKey 23 = .ok (.iconst 0, 1) := by decide +kernel
theorem dX0_reasonOfKey_24 : decode cX0_reasonOfKey 24 = .ok (.goto 5, 3) := by decide +kernel
theorem dX0_reasonOfKey_27 : decode cX0_reasonOfKey 27 = .ok (.bipush 18, 2) := by decide +kernel
theorem dX0_reasonOfKey_29 : decode cX0_reasonOfKey 29 = .ok (.ireturn, 1) := by decide +kernel
theorem dX0_reasonToWear_0 : decode cX0_reasonToWear 0 = .ok (.aload_n 0, 1) := by decide +kernel
theorem dX0_reasonToWear_1 : decode cX0_reasonToWear 1 = .ok (.iload_n 1, 1) := by decide +kernel
theorem dX0_reasonToWear_2 : decode cX0_reasonToWear 2 = .ok (.invokevirtual 49, 3) := by decide +kernel
theorem dX0_reasonToWear_5 : decode cX0_reasonToWear 5 = .ok (.ifCond .ne 6, 3) := by decide +kernel
theorem dX0_reasonToWear_8 : decode cX0_reasonToWear 8 = .ok (.bipush 11, 2) := by decide +kernel
theorem dX0_reasonToWear_10 : decode cX0_reasonToWear 10 = .ok (.ireturn, 1) := by decide +kernel
theorem dX0_reasonToWear_11 : decode cX0_reasonToWear 11 = .ok (.aload_n 0, 1) := by decide +kernel
theorem dX0_reasonToWear_12 : decode cX0_reasonToWear 12 = .ok (.getfield 33, 3) := by decide +kernel
theorem dX0_reasonToWear_15 : decode cX0_reasonToWear 15 = .ok (.iload_n 1, 1) := by decide +kernel
theorem dX0_reasonToWear_16 : decode cX0_reasonToWear 16 = .ok (.iconst 4, 1) := by decide +kernel
theorem dX0_reasonToWear_17 : decode cX0_reasonToWear 17 = .ok (.invokevirtual 104, 3) := by decide +kernel
theorem dX0_reasonToWear_20 : decode cX0_reasonToWear 20 = .ok (.ifCond .eq 7, 3) := by decide +kernel
theorem dX0_reasonToWear_23 : decode cX0_reasonToWear 23 = .ok (.iconst 0, 1) := by decide +kernel
theorem dX0_reasonToWear_24 : decode cX0_reasonToWear 24 = .ok (.goto 5, 3) := by decide +kernel
theorem dX0_reasonToWear_27 : decode cX0_reasonToWear 27 = .ok (.bipush 19, 2) := by decide +kernel
theorem dX0_reasonToWear_29 : decode cX0_reasonToWear 29 = .ok (.ireturn, 1) := by decide +kernel
theorem dX0_reasonToEnter_0 : decode cX0_reasonToEnter 0 = .ok (.aload_n 0, 1) := by decide +kernel
theorem dX0_reasonToEnter_1 : decode cX0_reasonToEnter 1 = .ok (.getfield 34, 3) := by decide +kernel
theorem dX0_reasonToEnter_4 : decode cX0_reasonToEnter 4 = .ok (.getfield 108, 3) := by decide +kernel
theorem dX0_reasonToEnter_7 : decode cX0_reasonToEnter 7 = .ok (.iload_n 1, 1) := by decide +kernel
theorem dX0_reasonToEnter_8 : decode cX0_reasonToEnter 8 = .ok (.baload, 1) := by decide +kernel
theorem dX0_reasonToEnter_9 : decode cX0_reasonToEnter 9 = .ok (.ifCond .ne 5, 3) := by decide +kernel
theorem dX0_reasonToEnter_12 : decode cX0_reasonToEnter 12 = .ok (.iconst 4, 1) := by decide +kernel
theorem dX0_reasonToEnter_13 : decode cX0_reasonToEnter 13 = .ok (.ireturn, 1) := by decide +kernel
theorem dX0_reasonToEnter_14 : decode cX0_reasonToEnter 14 = .ok (.aload_n 0, 1) := by decide +kernel
theorem dX0_reasonToEnter_15 : decode cX0_reasonToEnter 15 = .ok (.getfield 9, 3) := by decide +kernel
theorem dX0_reasonToEnter_18 : decode cX0_reasonToEnter 18 = .ok (.iload_n 1, 1) := by decide +kernel
theorem dX0_reasonToEnter_19 : decode cX0_reasonToEnter 19 = .ok (.invokevirtual 86, 3) := by decide +kernel
theorem dX0_reasonToEnter_22 : decode cX0_reasonToEnter 22 = .ok (.istore_n 2, 1) := by decide +kernel
theorem dX0_reasonToEnter_23 : decode cX0_reasonToEnter 23 = .ok (.iload_n 2, 1) := by decide +kernel
theorem dX0_reasonToEnter_24 : decode cX0_reasonToEnter 24 = .ok (.iconst 3, 1) := by decide +kernel
theorem dX0_reasonToEnter_25 : decode cX0_reasonToEnter 25 = .ok (.if_icmp .eq 11, 3) := by decide +kernel
theorem dX0_reasonToEnter_28 : decode cX0_reasonToEnter 28 = .ok (.iload_n 2, 1) := by decide +kernel
theorem dX0_reasonToEnter_29 : decode cX0_reasonToEnter 29 = .ok (.iconst 4, 1) := by decide +kernel
theorem dX0_reasonToEnter_30 : decode cX0_reasonToEnter 30 = .ok (.if_icmp .eq 6, 3) := by decide +kernel
theorem dX0_reasonToEnter_33 : decode cX0_reasonToEnter 33 = .ok (.bipush 12, 2) := by decide +kernel
theorem dX0_reasonToEnter_35 : decode cX0_reasonToEnter 35 = .ok (.ireturn, 1) := by decide +kernel
theorem dX0_reasonToEnter_36 : decode cX0_reasonToEnter 36 = .ok (.aload_n 0, 1) := by decide +kernel
theorem dX0_reasonToEnter_37 : decode cX0_reasonToEnter 37 = .ok (.getfield 33, 3) := by decide +kernel
theorem dX0_reasonToEnter_40 : decode cX0_reasonToEnter 40 = .ok (.aload_n 0, 1) := by decide +kernel
theorem dX0_reasonToEnter_41 : decode cX0_reasonToEnter 41 = .ok (.getfield 38, 3) := by decide +kernel
theorem dX0_reasonToEnter_44 : decode cX0_reasonToEnter 44 = .ok (.iload_n 1, 1) := by decide +kernel
theorem dX0_reasonToEnter_45 : decode cX0_reasonToEnter 45 = .ok (.invokevirtual 112, 3) := by decide +kernel
theorem dX0_reasonToEnter_48 : decode cX0_reasonToEnter 48 = .ok (.ifCond .eq 6, 3) := by decide +kernel
theorem dX0_reasonToEnter_51 : decode cX0_reasonToEnter 51 = .ok (.bipush 13, 2) := by decide +kernel
theorem dX0_reasonToEnter_53 : decode cX0_reasonToEnter 53 = .ok (.ireturn, 1) := by decide +kernel
theorem dX0_reasonToEnter_54 : decode cX0_reasonToEnter 54 = .ok (.iload_n 2, 1) := by decide +kernel
theorem dX0_reasonToEnter_55 : decode cX0_reasonToEnter 55 = .ok (.iconst 3, 1) := by decide +kernel
theorem dX0_reasonToEnter_56 : decode cX0_reasonToEnter 56 = .ok (.if_icmp .ne 17, 3) := by decide +kernel
theorem dX0_reasonToEnter_59 : decode cX0_reasonToEnter 59 = .ok (.aload_n 0, 1) := by decide +kernel
theorem dX0_reasonToEnter_60 : decode cX0_reasonToEnter 60 = .ok (.getfield 33, 3) := by decide +kernel
theorem dX0_reasonToEnter_63 : decode cX0_reasonToEnter 63 = .ok (.iload_n 1, 1) := by decide +kernel
theorem dX0_reasonToEnter_64 : decode cX0_reasonToEnter 64 = .ok (.iconst 0, 1) := by decide +kernel
theorem dX0_reasonToEnter_65 : decode cX0_reasonToEnter 65 = .ok (.invokevirtual 104, 3) := by decide +kernel
theorem dX0_reasonToEnter_68 : decode cX0_reasonToEnter 68 = .ok (.ifCond .ne 5, 3) := by decide +kernel
theorem dX0_reasonToEnter_71 : decode cX0_reasonToEnter 71 = .ok (.iconst 3, 1) := by decide +kernel
theorem dX0_reasonToEnter_72 : decode cX0_reasonToEnter 72 = .ok (.ireturn, 1) := by decide +kernel
theorem dX0_reasonToEnter_73 : decode cX0_reasonToEnter 73 = .ok (.aload_n 0, 1) := by decide +kernel
theorem dX0_reasonToEnter_74 : decode cX0_reasonToEnter 74 = .ok (.getfield 34, 3) := by decide +kernel
theorem dX0_reasonToEnter_77 : decode cX0_reasonToEnter 77 = .ok (.getfield 118, 3) := by decide +kernel
theorem dX0_reasonToEnter_80 : decode cX0_reasonToEnter 80 = .ok (.iload_n 1, 1) := by decide +kernel
theorem dX0_reasonToEnter_81 : decode cX0_reasonToEnter 81 = .ok (.baload, 1) := by decide +kernel
theorem dX0_reasonToEnter_82 : decode cX0_reasonToEnter 82 = .ok (.ifCond .ne 6, 3) := by decide +kernel
theorem dX0_reasonToEnter_85 : decode cX0_reasonToEnter 85 = .ok (.bipush 8, 2) := by decide +kernel
theorem dX0_reasonToEnter_87 : decode cX0_reasonToEnter 87 = .ok (.ireturn, 1) := by decide +kernel
theorem dX0_reasonToEnter_88 : decode cX0_reasonToEnter 88 = .ok (.aload_n 0, 1) := by decide +kernel
theorem dX0_reasonToEnter_89 : decode cX0_reasonToEnter 89 = .ok (.getfield 33, 3) := by decide +kernel
theorem dX0_reasonToEnter_92 : decode cX0_reasonToEnter 92 = .ok (.aload_n 0, 1) := by decide +kernel
theorem dX0_reasonToEnter_93 : decode cX0_reasonToEnter 93 = .ok (.getfield 38, 3) := by decide +kernel
theorem dX0_reasonToEnter_96 : decode cX0_reasonToEnter 96 = .ok (.invokevirtual 83, 3) := by decide +kernel
theorem dX0_reasonToEnter_99 : decode cX0_reasonToEnter 99 = .ok (.iload_n 1, 1) := by decide +kernel
theorem dX0_reasonToEnter_100 : decode cX0_reasonToEnter 100 = .ok (.if_icmp .ne 8, 3) := by decide +kernel
theorem dX0_reasonToEnter_103 : decode cX0_reasonToEnter 103 = .ok (.bipush 20, 2) := by decide +kernel
theorem dX0_reasonToEnter_105 : decode cX0_reasonToEnter 105 = .ok (.goto 4, 3) := by decide +kernel
theorem dX0_reasonToEnter_108 : decode cX0_reasonToEnter 108 = .ok (.iconst 0, 1) := by decide +kernel
theorem dX0_reasonToEnter_109 : decode cX0_reasonToEnter 109 = .ok (.ireturn, 1) := by decide +kernel
theorem dX0_reasonToLeave_0 : decode cX0_reasonToLeave 0 = .ok (.aload_n 0, 1) := by decide +kernel
theorem dX0_reasonToLeave_1 : decode cX0_reasonToLeave 1 = .ok (.getfield 33, 3) := by decide +kernel
theorem dX0_reasonToLeave_4 : decode cX0_reasonToLeave 4 = .ok (.aload_n 0, 1) := by decide +kernel
theorem dX0_reasonToLeave_5 : decode cX0_reasonToLeave 5 = .ok (.getfield 38, 3) := by decide +kernel
theorem dX0_reasonToLeave_8 : decode cX0_reasonToLeave 8 = .ok (.invokevirtual 83, 3) := by decide +kernel
theorem dX0_reasonToLeave_11 : decode cX0_reasonToLeave 11 = .ok (.istore_n 1, 1) := by decide +kernel
theorem dX0_reasonToLeave_12 : decode cX0_reasonToLeave 12 = .ok (.iload_n 1, 1) := by decide +kernel
theorem dX0_reasonToLeave_13 : decode cX0_reasonToLeave 13 = .ok (.bipush (-9), 2) := by decide +kernel
theorem dX0_reasonToLeave_15 : decode cX0_reasonToLeave 15 = .ok (.if_icmp .eq 10, 3) := by decide +kernel
theorem dX0_reasonToLeave_18 : decode cX0_reasonToLeave 18 = .ok (.aload_n 0, 1) := by decide +kernel
theorem dX0_reasonToLeave_19 : decode cX0_reasonToLeave 19 = .ok (.invokevirtual 91, 3) := by decide +kernel
theorem dX0_reasonToLeave_22 : decode cX0_reasonToLeave 22 = .ok (.ifCond .eq 5, 3) := by decide +kernel
theorem dX0_reasonToLeave_25 : decode cX0_reasonToLeave 25 = .ok (.iconst 1, 1) := by decide +kernel
theorem dX0_reasonToLeave_26 : decode cX0_reasonToLeave 26 = .ok (.ireturn, 1) := by decide +kernel
theorem dX0_reasonToLeave_27 : decode cX0_reasonToLeave 27 = .ok (.aload_n 0, 1) := by decide +kernel
theorem dX0_reasonToLeave_28 : decode cX0_reasonToLeave 28 = .ok (.getfield 9, 3) := by decide +kernel
theorem dX0_reasonToLeave_31 : decode cX0_reasonToLeave 31 = .ok (.iload_n 1, 1) := by decide +kernel
theorem dX0_reasonToLeave_32 : decode cX0_reasonToLeave 32 = .ok (.invokevirtual 86, 3) := by decide +kernel
theorem dX0_reasonToLeave_35 : decode cX0_reasonToLeave 35 = .ok (.iconst 3, 1) := by decide +kernel
theorem dX0_reasonToLeave_36 : decode cX0_reasonToLeave 36 = .ok (.if_icmp .ne 17, 3) := by decide +kernel
theorem dX0_reasonToLeave_39 : decode cX0_reasonToLeave 39 = .ok (.aload_n 0, 1) := by decide +kernel
theorem dX0_reasonToLeave_40 : decode cX0_reasonToLeave 40 = .ok (.getfield 33, 3) := by decide +kernel
theorem dX0_reasonToLeave_43 : decode cX0_reasonToLeave 43 = .ok (.iload_n 1, 1) := by decide +kernel
theorem dX0_reasonToLeave_44 : decode cX0_reasonToLeave 44 = .ok (.iconst 0, 1) := by decide +kernel
theorem dX0_reasonToLeave_45 : decode cX0_reasonToLeave 45 = .ok (.invokevirtual 104, 3) := by decide +kernel
theorem dX0_reasonToLeave_48 : decode cX0_reasonToLeave 48 = .ok (.ifCond .ne 5, 3) := by decide +kernel
theorem dX0_reasonToLeave_51 : decode cX0_reasonToLeave 51 = .ok (.iconst 3, 1) := by decide +kernel
theorem dX0_reasonToLeave_52 : decode cX0_reasonToLeave 52 = .ok (.ireturn, 1) := by decide +kernel
theorem dX0_reasonToLeave_53 : decode cX0_reasonToLeave 53 = .ok (.aload_n 0, 1) := by decide +kernel
theorem dX0_reasonToLeave_54 : decode cX0_reasonToLeave 54 = .ok (.getfield 33, 3) := by decide +kernel
theorem dX0_reasonToLeave_57 : decode cX0_reasonToLeave 57 = .ok (.iload_n 1, 1) := by decide +kernel
theorem dX0_reasonToLeave_58 : decode cX0_reasonToLeave 58 = .ok (.invokevirtual 80, 3) := by decide +kernel
theorem dX0_reasonToLeave_61 : decode cX0_reasonToLeave 61 = .ok (.istore_n 2, 1) := by decide +kernel
theorem dX0_reasonToLeave_62 : decode cX0_reasonToLeave 62 = .ok (.iload_n 2, 1) := by decide +kernel
theorem dX0_reasonToLeave_63 : decode cX0_reasonToLeave 63 = .ok (.ifCond .eq 8, 3) := by decide +kernel
theorem dX0_reasonToLeave_66 : decode cX0_reasonToLeave 66 = .ok (.iload_n 2, 1) := by decide +kernel
theorem dX0_reasonToLeave_67 : decode cX0_reasonToLeave 67 = .ok (.iconst 1, 1) := by decide +kernel
theorem dX0_reasonToLeave_68 : decode cX0_reasonToLeave 68 = .ok (.if_icmp .ne 7, 3) := by decide +kernel
theorem dX0_reasonToLeave_71 : decode cX0_reasonToLeave 71 = .ok (.iconst 0, 1) := by decide +kernel
theorem dX0_reasonToLeave_72 : decode cX0_reasonToLeave 72 = .ok (.goto 5, 3) := by decide +kernel
theorem dX0_reasonToLeave_75 : decode cX0_reasonToLeave 75 = .ok (.bipush 21, 2) := by decide +kernel
theorem dX0_reasonToLeave_77 : decode cX0_reasonToLeave 77 = .ok (.ireturn, 1) := by decide +kernel
theorem dX0_subjectOf_0 : decode cX0_subjectOf 0 = .ok (.iload_n 1, 1) := by decide +kernel
theorem dX0_subjectOf_1 : decode cX0_subjectOf 1 = .ok (.ifCond .eq 9, 3) := by decide +kernel
theorem dX0_subjectOf_4 : decode cX0_subjectOf 4 = .ok (.iload_n 1, 1) := by decide +kernel
theorem dX0_subjectOf_5 : decode cX0_subjectOf 5 = .ok (.bipush 10, 2) := by decide +kernel
theorem dX0_subjectOf_7 : decode cX0_subjectOf 7 = .ok (.if_icmp .lt 10, 3) := by decide +kernel
theorem dX0_subjectOf_10 : decode cX0_subjectOf 10 = .ok (.aload_n 0, 1) := by decide +kernel
theorem dX0_subjectOf_11 : decode cX0_subjectOf 11 = .ok (.getfield 38, 3) := by decide +kernel
theorem dX0_subjectOf_14 : decode cX0_subjectOf 14 = .ok (.goto 4, 3) := by decide +kernel
theorem dX0_subjectOf_17 : decode cX0_subjectOf 17 = .ok (.iload_n 2, 1) := by decide +kernel
theorem dX0_subjectOf_18 : decode cX0_subjectOf 18 = .ok (.ireturn, 1) := by decide +kernel
theorem dX0_outcomeOf_0 : decode cX0_outcomeOf 0 = .ok (.aload_n 0, 1) := by decide +kernel
theorem dX0_outcomeOf_1 : decode cX0_outcomeOf 1 = .ok (.getfield 33, 3) := by decide +kernel
theorem dX0_outcomeOf_4 : decode cX0_outcomeOf 4 = .ok (.getfield 149, 3) := by decide +kernel
theorem dX0_outcomeOf_7 : decode cX0_outcomeOf 7 = .ok (.aload_n 0, 1) := by decide +kernel
theorem dX0_outcomeOf_8 : decode cX0_outcomeOf 8 = .ok (.iload_n 1, 1) := by decide +kernel
theorem dX0_outcomeOf_9 : decode cX0_outcomeOf 9 = .ok (.iload_n 2, 1) := by decide +kernel
theorem dX0_outcomeOf_10 : decode cX0_outcomeOf 10 = .ok (.invokevirtual 152, 3) := by decide +kernel
theorem dX0_outcomeOf_13 : decode cX0_outcomeOf 13 = .ok (.iaload, 1) := by decide +kernel
theorem dX0_outcomeOf_14 : decode cX0_outcomeOf 14 = .ok (.istore 4, 2) := by decide +kernel
theorem dX0_outcomeOf_16 : decode cX0_outcomeOf 16 = .ok (.iload_n 1, 1) := by decide +kernel
theorem dX0_outcomeOf_17 : decode cX0_outcomeOf 17 = .ok (.tableswitch 257 0 11 #[63, 96, 109, 139, 149, 159, 159, 178, 178, 198, 211, 237], 63) := by decide +kernel
theorem dX0_outcomeOf_80 : decode cX0_outcomeOf 80 = .ok (.iload 4, 2) := by decide +kernel
theorem dX0_outcomeOf_82 : decode cX0_outcomeOf 82 = .ok (.iconst 0, 1) := by decide +kernel
theorem dX0_outcomeOf_83 : decode cX0_outcomeOf 83 = .ok (.aload_n 0, 1) := by decide +kernel
theorem dX0_outcomeOf_84 : decode cX0_outcomeOf 84 = .ok (.getfield 19, 3) := by decide +kernel
theorem dX0_outcomeOf_87 : decode cX0_outcomeOf 87 = .ok (.getfield 95, 3) := by decide +kernel
theorem dX0_outcomeOf_90 : decode cX0_outcomeOf 90 = .ok (.aload_n 0, 1) := by decide +kernel
theorem dX0_outcomeOf_91 : decode cX0_outcomeOf 91 = .ok (.getfield 33, 3) := by decide +kernel
theorem dX0_outcomeOf_94 : decode cX0_outcomeOf 94 = .ok (.aload_n 0, 1) := by decide +kernel
theorem dX0_outcomeOf_95 : decode cX0_outcomeOf 95 = .ok (.getfield 38, 3) := by decide +kernel
theorem dX0_outcomeOf_98 : decode cX0_outcomeOf 98 = .ok (.invokevirtual 83, 3) := by decide +kernel
theorem dX0_outcomeOf_101 : decode cX0_outcomeOf 101 = .ok (.bipush 10, 2) := by decide +kernel
theorem dX0_outcomeOf_103 : decode cX0_outcomeOf 103 = .ok (.imul, 1) := by decide +kernel
theorem dX0_outcomeOf_104 : decode cX0_outcomeOf 104 = .ok (.iload_n 2, 1) := by decide +kernel
theorem dX0_outcomeOf_105 : decode cX0_outcomeOf 105 = .ok (.iadd, 1) := by decide +kernel
theorem dX0_outcomeOf_106 : decode cX0_outcomeOf 106 = .ok (.iaload, 1) := by decide +kernel
theorem dX0_outcomeOf_107 : decode cX0_outcomeOf 107 = .ok (.invokestatic 155, 3) := by decide +kernel
theorem dX0_outcomeOf_110 : decode cX0_outcomeOf 110 = .ok (.goto 166, 3) := by decide +kernel
theorem dX0_outcomeOf_113 : decode cX0_outcomeOf 113 = .ok (.iload 4, 2) := by decide +kernel
theorem dX0_outcomeOf_115 : decode cX0_outcomeOf 115 = .ok (.iconst 2, 1) := by decide +kernel
theorem dX0_outcomeOf_116 : decode cX0_outcomeOf 116 = .ok (.aload_n 0, 1) := by decide +kernel
theorem dX0_outcomeOf_117 : decode cX0_outcomeOf 117 = .ok (.getfield 38, 3) := by decide +kernel
theorem dX0_outcomeOf_120 : decode cX0_outcomeOf 120 = .ok (.invokestatic 155, 3) := by decide +kernel
theorem dX0_outcomeOf_123 : decode cX0_outcomeOf 123 = .ok (.goto 153, 3) := by decide +kernel
theorem dX0_outcomeOf_126 : decode cX0_outcomeOf 126 = .ok (.iload 4, 2) := by decide +kernel
theorem dX0_outcomeOf_128 : decode cX0_outcomeOf 128 = .ok (.aload_n 0, 1) := by decide +kernel
theorem dX0_outcomeOf_129 : decode cX0_outcomeOf 129 = .ok (.getfield 33, 3) := by decide +kernel
theorem dX0_outcomeOf_132 : decode cX0_outcomeOf 132 = .ok (.aload_n 0, 1) := by decide +kernel
theorem dX0_outcomeOf_133 : decode cX0_outcomeOf 133 = .ok (.getfield 38, 3) := by decide +kernel
theorem dX0_outcomeOf_136 : decode cX0_outcomeOf 136 = .ok (.invokevirtual 80, 3) := by decide +kernel
theorem dX0_outcomeOf_139 : decode cX0_outcomeOf 139 = .ok (.aload_n 0, 1) := by decide +kernel
theorem dX0_outcomeOf_140 : decode cX0_outcomeOf 140 = .ok (.getfield 33, 3) := by decide +kernel
theorem dX0_outcomeOf_143 : decode cX0_outcomeOf 143 = .ok (.aload_n 0, 1) := by decide +kernel
theorem dX0_outcomeOf_144 : decode cX0_outcomeOf 144 = .ok (.getfield 38, 3) := by decide +kernel
theorem dX0_outcomeOf_147 : decode cX0_outcomeOf 147 = .ok (.invokevirtual 83, 3) := by decide +kernel
theorem dX0_outcomeOf_150 : decode cX0_outcomeOf 150 = .ok (.invokestatic 155, 3) := by decide +kernel
theorem dX0_outcomeOf_153 : decode cX0_outcomeOf 153 = .ok (.goto 123, 3) := by decide +kernel
theorem dX0_outcomeOf_156 : decode cX0_outcomeOf 156 = .ok (.iload 4, 2) := by decide +kernel
theorem dX0_outcomeOf_158 : decode cX0_outcomeOf 158 = .ok (.iconst 0, 1) := by decide +kernel
theorem dX0_outcomeOf_159 : decode cX0_outcomeOf 159 = .ok (.iload_n 3, 1) := by decide +kernel
theorem dX0_outcomeOf_160 : decode cX0_outcomeOf 160 = .ok (.invokestatic 155, 3) := by decide +kernel
theorem dX0_outcomeOf_163 : decode cX0_outcomeOf 163 = .ok (.goto 113, 3) := by decide +kernel
theorem dX0_outcomeOf_166 : decode cX0_outcomeOf 166 = .ok (.iload 4, 2) := by decide +kernel
theorem dX0_outcomeOf_168 : decode cX0_outcomeOf 168 = .ok (.iconst 1, 1) := by decide +kernel
theorem dX0_outcomeOf_169 : decode cX0_outcomeOf 169 = .ok (.iload_n 3, 1) := by decide +kernel
theorem dX0_outcomeOf_170 : decode cX0_outcomeOf 170 = .ok (.invokestatic 155, 3) := by decide +kernel
theorem dX0_outcomeOf_173 : decode cX0_outcomeOf 173 = .ok (.goto 103, 3) := by decide +kernel
theorem dX0_outcomeOf_176 : decode cX0_outcomeOf 176 = .ok (.iload 4, 2) := by decide +kernel
theorem dX0_outcomeOf_178 : decode cX0_outcomeOf 178 = .ok (.iconst 0, 1) := by decide +kernel
theorem dX0_outcomeOf_179 : decode cX0_outcomeOf 179 = .ok (.iload_n 1, 1) := by decide +kernel
theorem dX0_outcomeOf_180 : decode cX0_outcomeOf 180 = .ok (.iconst 5, 1) := by decide +kernel
theorem dX0_outcomeOf_181 : decode cX0_outcomeOf 181 = .ok (.if_icmp .ne 7, 3) := by decide +kernel
theorem dX0_outcomeOf_184 : decode cX0_outcomeOf 184 = .ok (.iconst 1, 1) := by decide +kernel
theorem dX0_outcomeOf_185 : decode cX0_outcomeOf 185 = .ok (.goto 4, 3) := by decide +kernel
theorem dX0_outcomeOf_188 : decode cX0_outcomeOf 188 = .ok (.iconst 0, 1) := by decide +kernel
theorem dX0_outcomeOf_189 : decode cX0_outcomeOf 189 = .ok (.invokestatic 158, 3) := by decide +kernel
theorem dX0_outcomeOf_192 : decode cX0_outcomeOf 192 = .ok (.goto 84, 3) := by decide +kernel
theorem dX0_outcomeOf_195 : decode cX0_outcomeOf 195 = .ok (.iload 4, 2) := by decide +kernel
theorem dX0_outcomeOf_197 : decode cX0_outcomeOf 197 = .ok (.iconst 1, 1) := by decide +kernel
theorem dX0_outcomeOf_198 : decode cX0_outcomeOf 198 = .ok (.iload_n 1, 1) := by decide +kernel
theorem dX0_outcomeOf_199 : decode cX0_outcomeOf 199 = .ok (.bipush 8, 2) := by decide +kernel
theorem dX0_outcomeOf_201 : decode cX0_outcomeOf 201 = .ok (.if_icmp .ne 7, 3) := by decide +kernel
theorem dX0_outcomeOf_204 : decode cX0_outcomeOf 204 = .ok (.iconst 1, 1) := by decide +kernel
theorem dX0_outcomeOf_205 : decode cX0_outcomeOf 205 = .ok (.goto 4, 3) := by decide +kernel
theorem dX0_outcomeOf_208 : decode cX0_outcomeOf 208 = .ok (.iconst 0, 1) := by decide +kernel
theorem dX0_outcomeOf_209 : decode cX0_outcomeOf 209 = .ok (.invokestatic 158, 3) := by decide +kernel
theorem dX0_outcomeOf_212 : decode cX0_outcomeOf 212 = .ok (.goto 64, 3) := by decide +kernel
theorem dX0_outcomeOf_215 : decode cX0_outcomeOf 215 = .ok (.iload 4, 2) := by decide +kernel
theorem dX0_outcomeOf_217 : decode cX0_outcomeOf 217 = .ok (.iconst 3, 1) := by decide +kernel
theorem dX0_outcomeOf_218 : decode cX0_outcomeOf 218 = .ok (.aload_n 0, 1) := by decide +kernel
theorem dX0_outcomeOf_219 : decode cX0_outcomeOf 219 = .ok (.getfield 38, 3) := by decide +kernel
theorem dX0_outcomeOf_222 : decode cX0_outcomeOf 222 = .ok (.invokestatic 155, 3) := by decide +kernel
theorem dX0_outcomeOf_225 : decode cX0_outcomeOf 225 = .ok (.goto 51, 3) := by decide +kernel
theorem dX0_outcomeOf_228 : decode cX0_outcomeOf 228 = .ok (.iload 4, 2) := by decide +kernel
theorem dX0_outcomeOf_230 : decode cX0_outcomeOf 230 = .ok (.aload_n 0, 1) := by decide +kernel
theorem dX0_outcomeOf_231 : decode cX0_outcomeOf 231 = .ok (.getfield 9, 3) := by decide +kernel
theorem dX0_outcomeOf_234 : decode cX0_outcomeOf 234 = .ok (.iload_n 2, 1) := by decide +kernel
theorem dX0_outcomeOf_235 : decode cX0_outcomeOf 235 = .ok (.invokevirtual 86, 3) := by decide +kernel
theorem dX0_outcomeOf_238 : decode cX0_outcomeOf 238 = .ok (.iconst 3, 1) := by decide +kernel
theorem dX0_outcomeOf_239 : decode cX0_outcomeOf 239 = .ok (.if_icmp .ne 7, 3) := by decide +kernel
theorem dX0_outcomeOf_242 : decode cX0_outcomeOf 242 = .ok (.iconst 0, 1) := by decide +kernel
theorem dX0_outcomeOf_243 : decode cX0_outcomeOf 243 = .ok (.goto 4, 3) := by decide +kernel
theorem dX0_outcomeOf_246 : decode cX0_outcomeOf 246 = .ok (.iconst 1, 1) := by decide +kernel
theorem dX0_outcomeOf_247 : decode cX0_outcomeOf 247 = .ok (.iload_n 2, 1) := by decide +kernel
theorem dX0_outcomeOf_248 : decode cX0_outcomeOf 248 = .ok (.invokestatic 155, 3) := by decide +kernel
theorem dX0_outcomeOf_251 : decode cX0_outcomeOf 251 = .ok (.goto 25, 3) := by decide +kernel
theorem dX0_outcomeOf_254 : decode cX0_outcomeOf 254 = .ok (.aload_n 0, 1) := by decide +kernel
theorem dX0_outcomeOf_255 : decode cX0_outcomeOf 255 = .ok (.iload 4, 2) := by decide +kernel
theorem dX0_outcomeOf_257 : decode cX0_outcomeOf 257 = .ok (.aload_n 0, 1) := by decide +kernel
theorem dX0_outcomeOf_258 : decode cX0_outcomeOf 258 = .ok (.getfield 33, 3) := by decide +kernel
theorem dX0_outcomeOf_261 : decode cX0_outcomeOf 261 = .ok (.aload_n 0, 1) := by decide +kernel
theorem dX0_outcomeOf_262 : decode cX0_outcomeOf 262 = .ok (.getfield 38, 3) := by decide +kernel
theorem dX0_outcomeOf_265 : decode cX0_outcomeOf 265 = .ok (.invokevirtual 83, 3) := by decide +kernel
theorem dX0_outcomeOf_268 : decode cX0_outcomeOf 268 = .ok (.invokevirtual 162, 3) := by decide +kernel
theorem dX0_outcomeOf_271 : decode cX0_outcomeOf 271 = .ok (.goto 5, 3) := by decide +kernel
theorem dX0_outcomeOf_274 : decode cX0_outcomeOf 274 = .ok (.iload 4, 2) := by decide +kernel
theorem dX0_outcomeOf_276 : decode cX0_outcomeOf 276 = .ok (.ireturn, 1) := by decide +kernel
theorem dX0_placedAs_0 : decode cX0_placedAs 0 = .ok (.iload_n 1, 1) := by decide +kernel
theorem dX0_placedAs_1 : decode cX0_placedAs 1 = .ok (.aload_n 0, 1) := by decide +kernel
theorem dX0_placedAs_2 : decode cX0_placedAs 2 = .ok (.getfield 33, 3) := by decide +kernel
theorem dX0_placedAs_5 : decode cX0_placedAs 5 = .ok (.iload_n 2, 1) := by decide +kernel
theorem dX0_placedAs_6 : decode cX0_placedAs 6 = .ok (.invokevirtual 80, 3) := by decide +kernel
theorem dX0_placedAs_9 : decode cX0_placedAs 9 = .ok (.aload_n 0, 1) := by decide +kernel
theorem dX0_placedAs_10 : decode cX0_placedAs 10 = .ok (.getfield 33, 3) := by decide +kernel
theorem dX0_placedAs_13 : decode cX0_placedAs 13 = .ok (.iload_n 2, 1) := by decide +kernel
theorem dX0_placedAs_14 : decode cX0_placedAs 14 = .ok (.invokevirtual 83, 3) := by decide +kernel
theorem dX0_placedAs_17 : decode cX0_placedAs 17 = .ok (.invokestatic 155, 3) := by decide +kernel
theorem dX0_placedAs_20 : decode cX0_placedAs 20 = .ok (.ireturn, 1) := by decide +kernel
theorem dX1_init_0 : decode cX1_init 0 = .ok (.aload_n 0, 1) := by decide +kernel
theorem dX1_init_1 : decode cX1_init 1 = .ok (.invokespecial 3, 3) := by decide +kernel
theorem dX1_init_4 : decode cX1_init 4 = .ok (.aload_n 0, 1) := by decide +kernel
theorem dX1_init_5 : decode cX1_init 5 = .ok (.sipush 200, 3) := by decide +kernel
theorem dX1_init_8 : decode cX1_init 8 = .ok (.newarray .int, 2) := by decide +kernel
theorem dX1_init_10 : decode cX1_init 10 = .ok (.putfield 9, 3) := by decide +kernel
theorem dX1_init_13 : decode cX1_init 13 = .ok (.aload_n 0, 1) := by decide +kernel
theorem dX1_init_14 : decode cX1_init 14 = .ok (.sipush 200, 3) := by decide +kernel
theorem dX1_init_17 : decode cX1_init 17 = .ok (.newarray .int, 2) := by decide +kernel
theorem dX1_init_19 : decode cX1_init 19 = .ok (.putfield 15, 3) := by decide +kernel
theorem dX1_init_22 : decode cX1_init 22 = .ok (.aload_n 0, 1) := by decide +kernel
theorem dX1_init_23 : decode cX1_init 23 = .ok (.sipush 200, 3) := by decide +kernel
theorem dX1_init_26 : decode cX1_init 26 = .ok (.newarray .int, 2) := by decide +kernel
theorem dX1_init_28 : decode cX1_init 28 = .ok (.putfield 18, 3) := by decide +kernel
theorem dX1_init_31 : decode cX1_init 31 = .ok (.aload_n 0, 1) := by decide +kernel
theorem dX1_init_32 : decode cX1_init 32 = .ok (.sipush 200, 3) := by decide +kernel
theorem dX1_init_35 : decode cX1_init 35 = .ok (.newarray .int, 2) := by decide +kernel
theorem dX1_init_37 : decode cX1_init 37 = .ok (.putfield 21, 3) := by decide +kernel
theorem dX1_init_40 : decode cX1_init 40 = .ok (.aload_n 0, 1) := by decide +kernel
theorem dX1_init_41 : decode cX1_init 41 = .ok (.sipush 200, 3) := by decide +kernel
theorem dX1_init_44 : decode cX1_init 44 = .ok (.newarray .boolean, 2) := by decide +kernel
theorem dX1_init_46 : decode cX1_init 46 = .ok (.putfield 24, 3) := by decide +kernel
theorem dX1_init_49 : decode cX1_init 49 = .ok (.aload_n 0, 1) := by decide +kernel
theorem dX1_init_50 : decode cX1_init 50 = .ok (.bipush 30, 2) := by decide +kernel
theorem dX1_init_52 : decode cX1_init 52 = .ok (.newarray .int, 2) := by decide +kernel
theorem dX1_init_54 : decode cX1_init 54 = .ok (.putfield 28, 3) := by decide +kernel
theorem dX1_init_57 : decode cX1_init 57 = .ok (.aload_n 0, 1) := by decide +kernel
theorem dX1_init_58 : decode cX1_init 58 = .ok (.sipush 300, 3) := by decide +kernel
theorem dX1_init_61 : decode cX1_init 61 = .ok (.newarray .int, 2) := by decide +kernel
theorem dX1_init_63 : decode cX1_init 63 = .ok (.putfield 31, 3) := by decide +kernel
theorem dX1_init_66 : decode cX1_init 66 = .ok (.aload_n 0, 1) := by decide +kernel
theorem dX1_init_67 : decode cX1_init 67 = .ok (.sipush 180, 3) := by decide +kernel
theorem dX1_init_70 : decode cX1_init 70 = .ok (.newarray .int, 2) := by decide +kernel
theorem dX1_init_72 : decode cX1_init 72 = .ok (.putfield 34, 3) := by decide +kernel
theorem dX1_init_75 : decode cX1_init 75 = .ok (.aload_n 0, 1) := by decide +kernel
theorem dX1_init_76 : decode cX1_init 76 = .ok (.bipush 30, 2) := by decide +kernel
theorem dX1_init_78 : decode cX1_init 78 = .ok (.newarray .int, 2) := by decide +kernel
theorem dX1_init_80 : decode cX1_init 80 = .ok (.putfield 37, 3) := by decide +kernel
theorem dX1_init_83 : decode cX1_init 83 = .ok (.aload_n 0, 1) := by decide +kernel
theorem dX1_init_84 : decode cX1_init 84 = .ok (.bipush 30, 2) := by decide +kernel
theorem dX1_init_86 : decode cX1_init 86 = .ok (.newarray .int, 2) := by decide +kernel
theorem dX1_init_88 : decode cX1_init 88 = .ok (.putfield 40, 3) := by decide +kernel
theorem dX1_init_91 : decode cX1_init 91 = .ok (.aload_n 0, 1) := by decide +kernel
theorem dX1_init_92 : decode cX1_init 92 = .ok (.aload_n 1, 1) := by decide +kernel
theorem dX1_init_93 : decode cX1_init 93 = .ok (.putfield 43, 3) := by decide +kernel
theorem dX1_init_96 : decode cX1_init 96 = .ok (.aload_n 0, 1) := by decide +kernel
theorem dX1_init_97 : decode cX1_init 97 = .ok (.new 47, 3) := by decide +kernel
theorem dX1_init_100 : decode cX1_init 100 = .ok (.dup, 1) := by decide +kernel
theorem dX1_init_101 : decode cX1_init 101 = .ok (.aload_n 1, 1) := by decide +kernel
theorem dX1_init_102 : decode cX1_init 102 = .ok (.invokespecial 49, 3) := by decide +kernel
theorem dX1_init_105 : decode cX1_init 105 = .ok (.putfield 52, 3) := by decide +kernel
theorem dX1_init_108 : decode cX1_init 108 = .ok (.aload_n 0, 1) := by decide +kernel
theorem dX1_init_109 : decode cX1_init 109 = .ok (.getfield 28, 3) := by decide +kernel
theorem dX1_init_112 : decode cX1_init 112 = .ok (.bipush (-9), 2) := by decide +kernel
theorem dX1_init_114 : decode cX1_init 114 = .ok (.invokestatic 56, 3) := by decide +kernel
theorem dX1_init_117 : decode cX1_init 117 = .ok (.aload_n 0, 1) := by decide +kernel
theorem dX1_init_118 : decode cX1_init 118 = .ok (.getfield 31, 3) := by decide +kernel
theorem dX1_init_121 : decode cX1_init 121 = .ok (.bipush (-9), 2) := by decide +kernel
