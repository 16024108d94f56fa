theorem dX1_point_99 : decode cX1_point 99 = .ok (.iload_n 3, 1) := by decide +kernel
theorem dX1_point_100 : decode cX1_point 100 = .ok (.iload_n 2, 1) := by decide +kernel
theorem dX1_point_101 : decode cX1_point 101 = .ok (.iastore, 1) := by decide +kernel
theorem dX1_point_102 : decode cX1_point 102 = .ok (.aload_n 0, 1) := by decide +kernel
theorem dX1_point_103 : decode cX1_point 103 = .ok (.getfield 52, 3) := by decide +kernel
theorem dX1_point_106 : decode cX1_point 106 = .ok (.getfield 103, 3) := by decide +kernel
theorem dX1_point_109 : decode cX1_point 109 = .ok (.iload_n 3, 1) := by decide +kernel
theorem dX1_point_110 : decode cX1_point 110 = .ok (.iload_n 2, 1) := by decide +kernel
theorem dX1_point_111 : decode cX1_point 111 = .ok (.bipush (-9), 2) := by decide +kernel
theorem dX1_point_113 : decode cX1_point 113 = .ok (.if_icmp .ne 9, 3) := by decide +kernel
theorem dX1_point_116 : decode cX1_point 116 = .ok (.sipush 255, 3) := by decide +kernel
theorem dX1_point_119 : decode cX1_point 119 = .ok (.goto 19, 3) := by decide +kernel
theorem dX1_point_122 : decode cX1_point 122 = .ok (.iconst 0, 1) := by decide +kernel
theorem dX1_point_123 : decode cX1_point 123 = .ok (.aload_n 0, 1) := by decide +kernel
theorem dX1_point_124 : decode cX1_point 124 = .ok (.getfield 9, 3) := by decide +kernel
theorem dX1_point_127 : decode cX1_point 127 = .ok (.iload_n 1, 1) := by decide +kernel
theorem dX1_point_128 : decode cX1_point 128 = .ok (.iaload, 1) := by decide +kernel
theorem dX1_point_129 : decode cX1_point 129 = .ok (.aload_n 0, 1) := by decide +kernel
theorem dX1_point_130 : decode cX1_point 130 = .ok (.getfield 18, 3) := by decide +kernel
theorem dX1_point_133 : decode cX1_point 133 = .ok (.iload_n 1, 1) := by decide +kernel
theorem dX1_point_134 : decode cX1_point 134 = .ok (.iaload, 1) := by decide +kernel
theorem dX1_point_135 : decode cX1_point 135 = .ok (.invokestatic 106, 3) := by decide +kernel
theorem dX1_point_138 : decode cX1_point 138 = .ok (.iastore, 1) := by decide +kernel
theorem dX1_point_139 : decode cX1_point 139 = .ok (.return_, 1) := by decide +kernel
theorem dX1_part_0 : decode cX1_part 0 = .ok (.iload_n 2, 1) := by decide +kernel
theorem dX1_part_1 : decode cX1_part 1 = .ok (.tableswitch 67 0 3 #[31, 40, 49, 58], 31) := by decide +kernel
theorem dX1_part_32 : decode cX1_part 32 = .ok (.aload_n 0, 1) := by decide +kernel
theorem dX1_part_33 : decode cX1_part 33 = .ok (.getfield 9, 3) := by decide +kernel
theorem dX1_part_36 : decode cX1_part 36 = .ok (.iload_n 1, 1) := by decide +kernel
theorem dX1_part_37 : decode cX1_part 37 = .ok (.iaload, 1) := by decide +kernel
theorem dX1_part_38 : decode cX1_part 38 = .ok (.goto 39, 3) := by decide +kernel
theorem dX1_part_41 : decode cX1_part 41 = .ok (.aload_n 0, 1) := by decide +kernel
theorem dX1_part_42 : decode cX1_part 42 = .ok (.getfield 15, 3) := by decide +kernel
theorem dX1_part_45 : decode cX1_part 45 = .ok (.iload_n 1, 1) := by decide +kernel
theorem dX1_part_46 : decode cX1_part 46 = .ok (.iaload, 1) := by decide +kernel
theorem dX1_part_47 : decode cX1_part 47 = .ok (.goto 30, 3) := by decide +kernel
theorem dX1_part_50 : decode cX1_part 50 = .ok (.aload_n 0, 1) := by decide +kernel
theorem dX1_part_51 : decode cX1_part 51 = .ok (.getfield 18, 3) := by decide +kernel
theorem dX1_part_54 : decode cX1_part 54 = .ok (.iload_n 1, 1) := by decide +kernel
theorem dX1_part_55 : decode cX1_part 55 = .ok (.iaload, 1) := by decide +kernel
theorem dX1_part_56 : decode cX1_part 56 = .ok (.goto 21, 3) := by decide +kernel
theorem dX1_part_59 : decode cX1_part 59 = .ok (.aload_n 0, 1) := by decide +kernel
theorem dX1_part_60 : decode cX1_part 60 = .ok (.getfield 21, 3) := by decide +kernel
theorem dX1_part_63 : decode cX1_part 63 = .ok (.iload_n 1, 1) := by decide +kernel
theorem dX1_part_64 : decode cX1_part 64 = .ok (.iaload, 1) := by decide +kernel
theorem dX1_part_65 : decode cX1_part 65 = .ok (.goto 12, 3) := by decide +kernel
theorem dX1_part_68 : decode cX1_part 68 = .ok (.aload_n 0, 1) := by decide +kernel
theorem dX1_part_69 : decode cX1_part 69 = .ok (.getfield 24, 3) := by decide +kernel
theorem dX1_part_72 : decode cX1_part 72 = .ok (.iload_n 1, 1) := by decide +kernel
theorem dX1_part_73 : decode cX1_part 73 = .ok (.baload, 1) := by decide +kernel
theorem dX1_part_74 : decode cX1_part 74 = .ok (.invokestatic 110, 3) := by decide +kernel
theorem dX1_part_77 : decode cX1_part 77 = .ok (.ireturn, 1) := by decide +kernel
theorem dX1_saidFlag_0 : decode cX1_saidFlag 0 = .ok (.aload_n 0, 1) := by decide +kernel
theorem dX1_saidFlag_1 : decode cX1_saidFlag 1 = .ok (.getfield 34, 3) := by decide +kernel
theorem dX1_saidFlag_4 : decode cX1_saidFlag 4 = .ok (.iload_n 1, 1) := by decide +kernel
theorem dX1_saidFlag_5 : decode cX1_saidFlag 5 = .ok (.bipush 6, 2) := by decide +kernel
theorem dX1_saidFlag_7 : decode cX1_saidFlag 7 = .ok (.imul, 1) := by decide +kernel
theorem dX1_saidFlag_8 : decode cX1_saidFlag 8 = .ok (.iload_n 2, 1) := by decide +kernel
theorem dX1_saidFlag_9 : decode cX1_saidFlag 9 = .ok (.iadd, 1) := by decide +kernel
theorem dX1_saidFlag_10 : decode cX1_saidFlag 10 = .ok (.iaload, 1) := by decide +kernel
theorem dX1_saidFlag_11 : decode cX1_saidFlag 11 = .ok (.istore_n 3, 1) := by decide +kernel
theorem dX1_saidFlag_12 : decode cX1_saidFlag 12 = .ok (.iload_n 3, 1) := by decide +kernel
theorem dX1_saidFlag_13 : decode cX1_saidFlag 13 = .ok (.bipush (-9), 2) := by decide +kernel
theorem dX1_saidFlag_15 : decode cX1_saidFlag 15 = .ok (.if_icmp .ne 15, 3) := by decide +kernel
theorem dX1_saidFlag_18 : decode cX1_saidFlag 18 = .ok (.aload_n 0, 1) := by decide +kernel
theorem dX1_saidFlag_19 : decode cX1_saidFlag 19 = .ok (.getfield 43, 3) := by decide +kernel
theorem dX1_saidFlag_22 : decode cX1_saidFlag 22 = .ok (.iload_n 1, 1) := by decide +kernel
theorem dX1_saidFlag_23 : decode cX1_saidFlag 23 = .ok (.iload_n 2, 1) := by decide +kernel
theorem dX1_saidFlag_24 : decode cX1_saidFlag 24 = .ok (.invokevirtual 114, 3) := by decide +kernel
theorem dX1_saidFlag_27 : decode cX1_saidFlag 27 = .ok (.goto 9, 3) := by decide +kernel
theorem dX1_saidFlag_30 : decode cX1_saidFlag 30 = .ok (.aload_n 0, 1) := by decide +kernel
theorem dX1_saidFlag_31 : decode cX1_saidFlag 31 = .ok (.getfield 21, 3) := by decide +kernel
theorem dX1_saidFlag_34 : decode cX1_saidFlag 34 = .ok (.iload_n 3, 1) := by decide +kernel
theorem dX1_saidFlag_35 : decode cX1_saidFlag 35 = .ok (.iaload, 1) := by decide +kernel
theorem dX1_saidFlag_36 : decode cX1_saidFlag 36 = .ok (.ireturn, 1) := by decide +kernel
theorem dX1_keyOf_0 : decode cX1_keyOf 0 = .ok (.aload_n 0, 1) := by decide +kernel
theorem dX1_keyOf_1 : decode cX1_keyOf 1 = .ok (.getfield 37, 3) := by decide +kernel
theorem dX1_keyOf_4 : decode cX1_keyOf 4 = .ok (.iload_n 1, 1) := by decide +kernel
theorem dX1_keyOf_5 : decode cX1_keyOf 5 = .ok (.iaload, 1) := by decide +kernel
theorem dX1_keyOf_6 : decode cX1_keyOf 6 = .ok (.istore_n 2, 1) := by decide +kernel
theorem dX1_keyOf_7 : decode cX1_keyOf 7 = .ok (.iload_n 2, 1) := by decide +kernel
theorem dX1_keyOf_8 : decode cX1_keyOf 8 = .ok (.bipush (-9), 2) := by decide +kernel
theorem dX1_keyOf_10 : decode cX1_keyOf 10 = .ok (.if_icmp .ne 8, 3) := by decide +kernel
theorem dX1_keyOf_13 : decode cX1_keyOf 13 = .ok (.bipush (-9), 2) := by decide +kernel
theorem dX1_keyOf_15 : decode cX1_keyOf 15 = .ok (.goto 9, 3) := by decide +kernel
theorem dX1_keyOf_18 : decode cX1_keyOf 18 = .ok (.aload_n 0, 1) := by decide +kernel
theorem dX1_keyOf_19 : decode cX1_keyOf 19 = .ok (.getfield 15, 3) := by decide +kernel
theorem dX1_keyOf_22 : decode cX1_keyOf 22 = .ok (.iload_n 2, 1) := by decide +kernel
theorem dX1_keyOf_23 : decode cX1_keyOf 23 = .ok (.iaload, 1) := by decide +kernel
theorem dX1_keyOf_24 : decode cX1_keyOf 24 = .ok (.ireturn, 1) := by decide +kernel
theorem dX1_clearClash_0 : decode cX1_clearClash 0 = .ok (.aload_n 0, 1) := by decide +kernel
theorem dX1_clearClash_1 : decode cX1_clearClash 1 = .ok (.iconst 0, 1) := by decide +kernel
theorem dX1_clearClash_2 : decode cX1_clearClash 2 = .ok (.putfield 118, 3) := by decide +kernel
theorem dX1_clearClash_5 : decode cX1_clearClash 5 = .ok (.return_, 1) := by decide +kernel
theorem dX1_addClash_0 : decode cX1_addClash 0 = .ok (.iload_n 1, 1) := by decide +kernel
theorem dX1_addClash_1 : decode cX1_addClash 1 = .ok (.bipush (-9), 2) := by decide +kernel
theorem dX1_addClash_3 : decode cX1_addClash 3 = .ok (.if_icmp .eq 15, 3) := by decide +kernel
theorem dX1_addClash_6 : decode cX1_addClash 6 = .ok (.aload_n 0, 1) := by decide +kernel
theorem dX1_addClash_7 : decode cX1_addClash 7 = .ok (.getfield 118, 3) := by decide +kernel
theorem dX1_addClash_10 : decode cX1_addClash 10 = .ok (.aload_n 0, 1) := by decide +kernel
theorem dX1_addClash_11 : decode cX1_addClash 11 = .ok (.getfield 40, 3) := by decide +kernel
theorem dX1_addClash_14 : decode cX1_addClash 14 = .ok (.arraylength, 1) := by decide +kernel
theorem dX1_addClash_15 : decode cX1_addClash 15 = .ok (.if_icmp .lt 5, 3) := by decide +kernel
theorem dX1_addClash_18 : decode cX1_addClash 18 = .ok (.iconst 0, 1) := by decide +kernel
theorem dX1_addClash_19 : decode cX1_addClash 19 = .ok (.ireturn, 1) := by decide +kernel
theorem dX1_addClash_20 : decode cX1_addClash 20 = .ok (.aload_n 0, 1) := by decide +kernel
theorem dX1_addClash_21 : decode cX1_addClash 21 = .ok (.getfield 40, 3) := by decide +kernel
theorem dX1_addClash_24 : decode cX1_addClash 24 = .ok (.aload_n 0, 1) := by decide +kernel
theorem dX1_addClash_25 : decode cX1_addClash 25 = .ok (.dup, 1) := by decide +kernel
theorem dX1_addClash_26 : decode cX1_addClash 26 = .ok (.getfield 118, 3) := by decide +kernel
theorem dX1_addClash_29 : decode cX1_addClash 29 = .ok (.dup_x1, 1) := by decide +kernel
theorem dX1_addClash_30 : decode cX1_addClash 30 = .ok (.iconst 1, 1) := by decide +kernel
theorem dX1_addClash_31 : decode cX1_addClash 31 = .ok (.iadd, 1) := by decide +kernel
theorem dX1_addClash_32 : decode cX1_addClash 32 = .ok (.putfield 118, 3) := by decide +kernel
theorem dX1_addClash_35 : decode cX1_addClash 35 = .ok (.iload_n 1, 1) := by decide +kernel
theorem dX1_addClash_36 : decode cX1_addClash 36 = .ok (.iastore, 1) := by decide +kernel
theorem dX1_addClash_37 : decode cX1_addClash 37 = .ok (.iconst 1, 1) := by decide +kernel
theorem dX1_addClash_38 : decode cX1_addClash 38 = .ok (.ireturn, 1) := by decide +kernel
theorem dX1_isClashing_0 : decode cX1_isClashing 0 = .ok (.aload_n 0, 1) := by decide +kernel
theorem dX1_isClashing_1 : decode cX1_isClashing 1 = .ok (.aload_n 0, 1) := by decide +kernel
theorem dX1_isClashing_2 : decode cX1_isClashing 2 = .ok (.iload_n 1, 1) := by decide +kernel
theorem dX1_isClashing_3 : decode cX1_isClashing 3 = .ok (.iload_n 2, 1) := by decide +kernel
theorem dX1_isClashing_4 : decode cX1_isClashing 4 = .ok (.iload_n 3, 1) := by decide +kernel
theorem dX1_isClashing_5 : decode cX1_isClashing 5 = .ok (.iload 4, 2) := by decide +kernel
theorem dX1_isClashing_7 : decode cX1_isClashing 7 = .ok (.invokevirtual 88, 3) := by decide +kernel
theorem dX1_isClashing_10 : decode cX1_isClashing 10 = .ok (.invokevirtual 121, 3) := by decide +kernel
theorem dX1_isClashing_13 : decode cX1_isClashing 13 = .ok (.ifCond .eq 5, 3) := by decide +kernel
theorem dX1_isClashing_16 : decode cX1_isClashing 16 = .ok (.iconst 1, 1) := by decide +kernel
theorem dX1_isClashing_17 : decode cX1_isClashing 17 = .ok (.ireturn, 1) := by decide +kernel
theorem dX1_isClashing_18 : decode cX1_isClashing 18 = .ok (.iload_n 1, 1) := by decide +kernel
theorem dX1_isClashing_19 : decode cX1_isClashing 19 = .ok (.tableswitch 69 5 7 #[25, 54, 65], 25) := by decide +kernel
theorem dX1_isClashing_44 : decode cX1_isClashing 44 = .ok (.aload_n 0, 1) := by decide +kernel
theorem dX1_isClashing_45 : decode cX1_isClashing 45 = .ok (.getfield 43, 3) := by decide +kernel
theorem dX1_isClashing_48 : decode cX1_isClashing 48 = .ok (.iload_n 3, 1) := by decide +kernel
theorem dX1_isClashing_49 : decode cX1_isClashing 49 = .ok (.invokevirtual 72, 3) := by decide +kernel
theorem dX1_isClashing_52 : decode cX1_isClashing 52 = .ok (.iconst 2, 1) := by decide +kernel
theorem dX1_isClashing_53 : decode cX1_isClashing 53 = .ok (.if_icmp .ne 16, 3) := by decide +kernel
theorem dX1_isClashing_56 : decode cX1_isClashing 56 = .ok (.aload_n 0, 1) := by decide +kernel
theorem dX1_isClashing_57 : decode cX1_isClashing 57 = .ok (.iload_n 2, 1) := by decide +kernel
theorem dX1_isClashing_58 : decode cX1_isClashing 58 = .ok (.iload_n 3, 1) := by decide +kernel
theorem dX1_isClashing_59 : decode cX1_isClashing 59 = .ok (.invokevirtual 124, 3) := by decide +kernel
theorem dX1_isClashing_62 : decode cX1_isClashing 62 = .ok (.ifCond .eq 7, 3) := by decide +kernel
theorem dX1_isClashing_65 : decode cX1_isClashing 65 = .ok (.iconst 1, 1) := by decide +kernel
theorem dX1_isClashing_66 : decode cX1_isClashing 66 = .ok (.goto 29, 3) := by decide +kernel
theorem dX1_isClashing_69 : decode cX1_isClashing 69 = .ok (.iconst 0, 1) := by decide +kernel
theorem dX1_isClashing_70 : decode cX1_isClashing 70 = .ok (.goto 25, 3) := by decide +kernel
theorem dX1_isClashing_73 : decode cX1_isClashing 73 = .ok (.aload_n 0, 1) := by decide +kernel
theorem dX1_isClashing_74 : decode cX1_isClashing 74 = .ok (.iload_n 2, 1) := by decide +kernel
theorem dX1_isClashing_75 : decode cX1_isClashing 75 = .ok (.iload_n 3, 1) := by decide +kernel
theorem dX1_isClashing_76 : decode cX1_isClashing 76 = .ok (.iload 4, 2) := by decide +kernel
theorem dX1_isClashing_78 : decode cX1_isClashing 78 = .ok (.invokevirtual 127, 3) := by decide +kernel
theorem dX1_isClashing_81 : decode cX1_isClashing 81 = .ok (.goto 14, 3) := by decide +kernel
theorem dX1_isClashing_84 : decode cX1_isClashing 84 = .ok (.iconst 0, 1) := by decide +kernel
theorem dX1_isClashing_85 : decode cX1_isClashing 85 = .ok (.goto 10, 3) := by decide +kernel
theorem dX1_isClashing_88 : decode cX1_isClashing 88 = .ok (.aload_n 0, 1) := by decide +kernel
theorem dX1_isClashing_89 : decode cX1_isClashing 89 = .ok (.iload_n 1, 1) := by decide +kernel
theorem dX1_isClashing_90 : decode cX1_isClashing 90 = .ok (.iload_n 2, 1) := by decide +kernel
theorem dX1_isClashing_91 : decode cX1_isClashing 91 = .ok (.iload_n 3, 1) := by decide +kernel
theorem dX1_isClashing_92 : decode cX1_isClashing 92 = .ok (.invokevirtual 131, 3) := by decide +kernel
theorem dX1_isClashing_95 : decode cX1_isClashing 95 = .ok (.ireturn, 1) := by decide +kernel
theorem dX1_isPlaceClashing_0 : decode cX1_isPlaceClashing 0 = .ok (.iload_n 2, 1) := by decide +kernel
theorem dX1_isPlaceClashing_1 : decode cX1_isPlaceClashing 1 = .ok (.iload_n 3, 1) := by decide +kernel
theorem dX1_isPlaceClashing_2 : decode cX1_isPlaceClashing 2 = .ok (.if_icmp .ne 5, 3) := by decide +kernel
theorem dX1_isPlaceClashing_5 : decode cX1_isPlaceClashing 5 = .ok (.iconst 1, 1) := by decide +kernel
theorem dX1_isPlaceClashing_6 : decode cX1_isPlaceClashing 6 = .ok (.ireturn, 1) := by decide +kernel
theorem dX1_isPlaceClashing_7 : decode cX1_isPlaceClashing 7 = .ok (.aload_n 0, 1) := by decide +kernel
theorem dX1_isPlaceClashing_8 : decode cX1_isPlaceClashing 8 = .ok (.getfield 52, 3) := by decide +kernel
theorem dX1_isPlaceClashing_11 : decode cX1_isPlaceClashing 11 = .ok (.iload_n 2, 1) := by decide +kernel
theorem dX1_isPlaceClashing_12 : decode cX1_isPlaceClashing 12 = .ok (.iload_n 3, 1) := by decide +kernel
theorem dX1_isPlaceClashing_13 : decode cX1_isPlaceClashing 13 = .ok (.invokevirtual 134, 3) := by decide +kernel
theorem dX1_isPlaceClashing_16 : decode cX1_isPlaceClashing 16 = .ok (.ifCond .eq 11, 3) := by decide +kernel
theorem dX1_isPlaceClashing_19 : decode cX1_isPlaceClashing 19 = .ok (.aload_n 0, 1) := by decide +kernel
theorem dX1_isPlaceClashing_20 : decode cX1_isPlaceClashing 20 = .ok (.iload_n 2, 1) := by decide +kernel
theorem dX1_isPlaceClashing_21 : decode cX1_isPlaceClashing 21 = .ok (.iload_n 3, 1) := by decide +kernel
theorem dX1_isPlaceClashing_22 : decode cX1_isPlaceClashing 22 = .ok (.invokevirtual 137, 3) := by decide +kernel
theorem dX1_isPlaceClashing_25 : decode cX1_isPlaceClashing 25 = .ok (.iconst 1, 1) := by decide +kernel
theorem dX1_isPlaceClashing_26 : decode cX1_isPlaceClashing 26 = .ok (.ireturn, 1) := by decide +kernel
theorem dX1_isPlaceClashing_27 : decode cX1_isPlaceClashing 27 = .ok (.iload_n 1, 1) := by decide +kernel
theorem dX1_isPlaceClashing_28 : decode cX1_isPlaceClashing 28 = .ok (.iconst 3, 1) := by decide +kernel
theorem dX1_isPlaceClashing_29 : decode cX1_isPlaceClashing 29 = .ok (.if_icmp .ne 21, 3) := by decide +kernel
theorem dX1_isPlaceClashing_32 : decode cX1_isPlaceClashing 32 = .ok (.aload_n 0, 1) := by decide +kernel
theorem dX1_isPlaceClashing_33 : decode cX1_isPlaceClashing 33 = .ok (.aload_n 0, 1) := by decide +kernel
theorem dX1_isPlaceClashing_34 : decode cX1_isPlaceClashing 34 = .ok (.iload_n 2, 1) := by decide +kernel
theorem dX1_isPlaceClashing_35 : decode cX1_isPlaceClashing 35 = .ok (.iconst 4, 1) := by decide +kernel
theorem dX1_isPlaceClashing_36 : decode cX1_isPlaceClashing 36 = .ok (.iconst 0, 1) := by decide +kernel
theorem dX1_isPlaceClashing_37 : decode cX1_isPlaceClashing 37 = .ok (.invokevirtual 140, 3) := by decide +kernel
theorem dX1_isPlaceClashing_40 : decode cX1_isPlaceClashing 40 = .ok (.invokevirtual 121, 3) := by decide +kernel
theorem dX1_isPlaceClashing_43 : decode cX1_isPlaceClashing 43 = .ok (.ifCond .eq 7, 3) := by decide +kernel
theorem dX1_isPlaceClashing_46 : decode cX1_isPlaceClashing 46 = .ok (.iconst 1, 1) := by decide +kernel
theorem dX1_isPlaceClashing_47 : decode cX1_isPlaceClashing 47 = .ok (.goto 4, 3) := by decide +kernel
theorem dX1_isPlaceClashing_50 : decode cX1_isPlaceClashing 50 = .ok (.iconst 0, 1) := by decide +kernel
theorem dX1_isPlaceClashing_51 : decode cX1_isPlaceClashing 51 = .ok (.ireturn, 1) := by decide +kernel
theorem dX1_addChain_0 : decode cX1_addChain 0 = .ok (.iload_n 2, 1) := by decide +kernel
theorem dX1_addChain_1 : decode cX1_addChain 1 = .ok (.istore_n 3, 1) := by decide +kernel
theorem dX1_addChain_2 : decode cX1_addChain 2 = .ok (.iconst 0, 1) := by decide +kernel
theorem dX1_addChain_3 : decode cX1_addChain 3 = .ok (.istore 4, 2) := by decide +kernel
theorem dX1_addChain_5 : decode cX1_addChain 5 = .ok (.iload 4, 2) := by decide +kernel
theorem dX1_addChain_7 : decode cX1_addChain 7 = .ok (.bipush 30, 2) := by decide +kernel
theorem dX1_addChain_9 : decode cX1_addChain 9 = .ok (.if_icmp .ge 40, 3) := by decide +kernel
theorem dX1_addChain_12 : decode cX1_addChain 12 = .ok (.iload_n 3, 1) := by decide +kernel
theorem dX1_addChain_13 : decode cX1_addChain 13 = .ok (.iload_n 1, 1) := by decide +kernel
theorem dX1_addChain_14 : decode cX1_addChain 14 = .ok (.if_icmp .eq 35, 3) := by decide +kernel
theorem dX1_addChain_17 : decode cX1_addChain 17 = .ok (.iload_n 3, 1) := by decide +kernel
theorem dX1_addChain_18 : decode cX1_addChain 18 = .ok (.bipush (-9), 2) := by decide +kernel
theorem dX1_addChain_20 : decode cX1_addChain 20 = .ok (.if_icmp .eq 29, 3) := by decide +kernel
theorem dX1_addChain_23 : decode cX1_addChain 23 = .ok (.aload_n 0, 1) := by decide +kernel
theorem dX1_addChain_24 : decode cX1_addChain 24 = .ok (.aload_n 0, 1) := by decide +kernel
theorem dX1_addChain_25 : decode cX1_addChain 25 = .ok (.getfield 28, 3) := by decide +kernel
theorem dX1_addChain_28 : decode cX1_addChain 28 = .ok (.iload_n 3, 1) := by decide +kernel
theorem dX1_addChain_29 : decode cX1_addChain 29 = .ok (.iaload, 1) := by decide +kernel
theorem dX1_addChain_30 : decode cX1_addChain 30 = .ok (.invokevirtual 121, 3) := by decide +kernel
theorem dX1_addChain_33 : decode cX1_addChain 33 = .ok (.pop, 1) := by decide +kernel
theorem dX1_addChain_34 : decode cX1_addChain 34 = .ok (.aload_n 0, 1) := by decide +kernel
theorem dX1_addChain_35 : decode cX1_addChain 35 = .ok (.getfield 52, 3) := by decide +kernel
theorem dX1_addChain_38 : decode cX1_addChain 38 = .ok (.iload_n 3, 1) := by decide +kernel
theorem dX1_addChain_39 : decode cX1_addChain 39 = .ok (.invokevirtual 143, 3) := by decide +kernel
theorem dX1_addChain_42 : decode cX1_addChain 42 = .ok (.istore_n 3, 1) := by decide +kernel
theorem dX1_addChain_43 : decode cX1_addChain 43 = .ok (.iinc 4 1, 3) := by decide +kernel
theorem dX1_addChain_46 : decode cX1_addChain 46 = .ok (.goto (-41), 3) := by decide +kernel
theorem dX1_addChain_49 : decode cX1_addChain 49 = .ok (.return_, 1) := by decide +kernel
theorem dX1_isDoorClashing_0 : decode cX1_isDoorClashing 0 = .ok (.iconst 0, 1) := by decide +kernel
theorem dX1_isDoorClashing_1 : decode cX1_isDoorClashing 1 = .ok (.istore_n 3, 1) := by decide +kernel
theorem dX1_isDoorClashing_2 : decode cX1_isDoorClashing 2 = .ok (.iload_n 3, 1) := by decide +kernel
theorem dX1_isDoorClashing_3 : decode cX1_isDoorClashing 3 = .ok (.bipush 10, 2) := by decide +kernel
theorem dX1_isDoorClashing_5 : decode cX1_isDoorClashing 5 = .ok (.if_icmp .ge 47, 3) := by decide +kernel
theorem dX1_isDoorClashing_8 : decode cX1_isDoorClashing 8 = .ok (.aload_n 0, 1) := by decide +kernel
theorem dX1_isDoorClashing_9 : decode cX1_isDoorClashing 9 = .ok (.getfield 31, 3) := by decide +kernel
theorem dX1_isDoorClashing_12 : decode cX1_isDoorClashing 12 = .ok (.iload_n 1, 1) := by decide +kernel
theorem dX1_isDoorClashing_13 : decode cX1_isDoorClashing 13 = .ok (.bipush 10, 2) := by decide +kernel
theorem dX1_isDoorClashing_15 : decode cX1_isDoorClashing 15 = .ok (.imul, 1) := by decide +kernel
theorem dX1_isDoorClashing_16 : decode cX1_isDoorClashing 16 = .ok (.iload_n 3, 1) := by decide +kernel
theorem dX1_isDoorClashing_17 : decode cX1_isDoorClashing 17 = .ok (.iadd, 1) := by decide +kernel
theorem dX1_isDoorClashing_18 : decode cX1_isDoorClashing 18 = .ok (.iaload, 1) := by decide +kernel
theorem dX1_isDoorClashing_19 : decode cX1_isDoorClashing 19 = .ok (.istore 4, 2) := by decide +kernel
theorem dX1_isDoorClashing_21 : decode cX1_isDoorClashing 21 = .ok (.iload 4, 2) := by decide +kernel
theorem dX1_isDoorClashing_23 : decode cX1_isDoorClashing 23 = .ok (.bipush (-9), 2) := by decide +kernel
theorem dX1_isDoorClashing_25 : decode cX1_isDoorClashing 25 = .ok (.if_icmp .eq 21, 3) := by decide +kernel
theorem dX1_isDoorClashing_28 : decode cX1_isDoorClashing 28 = .ok (.aload_n 0, 1) := by decide +kernel
theorem dX1_isDoorClashing_29 : decode cX1_isDoorClashing 29 = .ok (.getfield 18, 3) := by decide +kernel
theorem dX1_isDoorClashing_32 : decode cX1_isDoorClashing 32 = .ok (.iload 4, 2) := by decide +kernel
theorem dX1_isDoorClashing_34 : decode cX1_isDoorClashing 34 = .ok (.iaload, 1) := by decide +kernel
theorem dX1_isDoorClashing_35 : decode cX1_isDoorClashing 35 = .ok (.iload_n 2, 1) := by decide +kernel
theorem dX1_isDoorClashing_36 : decode cX1_isDoorClashing 36 = .ok (.if_icmp .ne 10, 3) := by decide +kernel
theorem dX1_isDoorClashing_39 : decode cX1_isDoorClashing 39 = .ok (.aload_n 0, 1) := by decide +kernel
theorem dX1_isDoorClashing_40 : decode cX1_isDoorClashing 40 = .ok (.iload 4, 2) := by decide +kernel
theorem dX1_isDoorClashing_42 : decode cX1_isDoorClashing 42 = .ok (.invokevirtual 121, 3) := by decide +kernel
theorem dX1_isDoorClashing_45 : decode cX1_isDoorClashing 45 = .ok (.ireturn, 1) := by decide +kernel
theorem dX1_isDoorClashing_46 : decode cX1_isDoorClashing 46 = .ok (.iinc 3 1, 3) := by decide +kernel
theorem dX1_isDoorClashing_49 : decode cX1_isDoorClashing 49 = .ok (.goto (-47), 3) := by decide +kernel
theorem dX1_isDoorClashing_52 : decode cX1_isDoorClashing 52 = .ok (.iconst 0, 1) := by decide +kernel
theorem dX1_isDoorClashing_53 : decode cX1_isDoorClashing 53 = .ok (.istore_n 3, 1) := by decide +kernel
theorem dX1_isDoorClashing_54 : decode cX1_isDoorClashing 54 = .ok (.iload_n 3, 1) := by decide +kernel
theorem dX1_isDoorClashing_55 : decode cX1_isDoorClashing 55 = .ok (.aload_n 0, 1) := by decide +kernel
theorem dX1_isDoorClashing_56 : decode cX1_isDoorClashing 56 = .ok (.getfield 92, 3) := by decide +kernel
theorem dX1_isDoorClashing_59 : decode cX1_isDoorClashing 59 = .ok (.if_icmp .ge 44, 3) := by decide +kernel
theorem dX1_isDoorClashing_62 : decode cX1_isDoorClashing 62 = .ok (.aload_n 0, 1) := by decide +kernel
theorem dX1_isDoorClashing_63 : decode cX1_isDoorClashing 63 = .ok (.getfield 24, 3) := by decide +kernel
theorem dX1_isDoorClashing_66 : decode cX1_isDoorClashing 66 = .ok (.iload_n 3, 1) := by decide +kernel
theorem dX1_isDoorClashing_67 : decode cX1_isDoorClashing 67 = .ok (.baload, 1) := by decide +kernel
theorem dX1_isDoorClashing_68 : decode cX1_isDoorClashing 68 = .ok (.ifCond .eq 29, 3) := by decide +kernel
theorem dX1_isDoorClashing_71 : decode cX1_isDoorClashing 71 = .ok (.aload_n 0, 1) := by decide +kernel
theorem dX1_isDoorClashing_72 : decode cX1_isDoorClashing 72 = .ok (.getfield 9, 3) := by decide +kernel
theorem dX1_isDoorClashing_75 : decode cX1_isDoorClashing 75 = .ok (.iload_n 3, 1) := by decide +kernel
theorem dX1_isDoorClashing_76 : decode cX1_isDoorClashing 76 = .ok (.iaload, 1) := by decide +kernel
theorem dX1_isDoorClashing_77 : decode cX1_isDoorClashing 77 = .ok (.iconst 5, 1) := by decide +kernel
theorem dX1_isDoorClashing_78 : decode cX1_isDoorClashing 78 = .ok (.if_icmp .ne 19, 3) := by decide +kernel
theorem dX1_isDoorClashing_81 : decode cX1_isDoorClashing 81 = .ok (.aload_n 0, 1) := by decide +kernel
theorem dX1_isDoorClashing_82 : decode cX1_isDoorClashing 82 = .ok (.getfield 18, 3) := by decide +kernel
theorem dX1_isDoorClashing_85 : decode cX1_isDoorClashing 85 = .ok (.iload_n 3, 1) := by decide +kernel
theorem dX1_isDoorClashing_86 : decode cX1_isDoorClashing 86 = .ok (.iaload, 1) := by decide +kernel
theorem dX1_isDoorClashing_87 : decode cX1_isDoorClashing 87 = .ok (.iload_n 2, 1) := by decide +kernel
theorem dX1_isDoorClashing_88 : decode cX1_isDoorClashing 88 = .ok (.if_icmp .ne 9, 3) := by decide +kernel
theorem dX1_isDoorClashing_91 : decode cX1_isDoorClashing 91 = .ok (.aload_n 0, 1) := by decide +kernel
theorem dX1_isDoorClashing_92 : decode cX1_isDoorClashing 92 = .ok (.iload_n 3, 1) := by decide +kernel
theorem dX1_isDoorClashing_93 : decode cX1_isDoorClashing 93 = .ok (.invokevirtual 121, 3) := by decide +kernel
theorem dX1_isDoorClashing_96 : decode cX1_isDoorClashing 96 = .ok (.pop, 1) := by decide +kernel
theorem dX1_isDoorClashing_97 : decode cX1_isDoorClashing 97 = .ok (.iinc 3 1, 3) := by decide +kernel
theorem dX1_isDoorClashing_100 : decode cX1_isDoorClashing 100 = .ok (.goto (-46), 3) := by decide +kernel
theorem dX1_isDoorClashing_103 : decode cX1_isDoorClashing 103 = .ok (.aload_n 0, 1) := by decide +kernel
theorem dX1_isDoorClashing_104 : decode cX1_isDoorClashing 104 = .ok (.getfield 118, 3) := by decide +kernel
theorem dX1_isDoorClashing_107 : decode cX1_isDoorClashing 107 = .ok (.iconst 2, 1) := by decide +kernel
theorem dX1_isDoorClashing_108 : decode cX1_isDoorClashing 108 = .ok (.if_icmp .lt 5, 3) := by decide +kernel
theorem dX1_isDoorClashing_111 : decode cX1_isDoorClashing 111 = .ok (.iconst 1, 1) := by decide +kernel
theorem dX1_isDoorClashing_112 : decode cX1_isDoorClashing 112 = .ok (.ireturn, 1) := by decide +kernel
theorem dX1_isDoorClashing_113 : decode cX1_isDoorClashing 113 = .ok (.aload_n 0, 1) := by decide +kernel
theorem dX1_isDoorClashing_114 : decode cX1_isDoorClashing 114 = .ok (.invokevirtual 146, 3) := by decide +kernel
theorem dX1_isDoorClashing_117 : decode cX1_isDoorClashing 117 = .ok (.iconst 0, 1) := by decide +kernel
theorem dX1_isDoorClashing_118 : decode cX1_isDoorClashing 118 = .ok (.ireturn, 1) := by decide +kernel
theorem dX1_isFlagClashing_0 : decode cX1_isFlagClashing 0 = .ok (.iload_n 2, 1) := by decide +kernel
theorem dX1_isFlagClashing_1 : decode cX1_isFlagClashing 1 = .ok (.tableswitch 126 0 4 #[35, 62, 126, 126, 89], 35) := by decide +kernel
theorem dX1_isFlagClashing_36 : decode cX1_isFlagClashing 36 = .ok (.iload_n 3, 1) := by decide +kernel
theorem dX1_isFlagClashing_37 : decode cX1_isFlagClashing 37 = .ok (.iconst 1, 1) := by decide +kernel
theorem dX1_isFlagClashing_38 : decode cX1_isFlagClashing 38 = .ok (.if_icmp .ne 21, 3) := by decide +kernel
theorem dX1_isFlagClashing_41 : decode cX1_isFlagClashing 41 = .ok (.aload_n 0, 1) := by decide +kernel
theorem dX1_isFlagClashing_42 : decode cX1_isFlagClashing 42 = .ok (.aload_n 0, 1) := by decide +kernel
theorem dX1_isFlagClashing_43 : decode cX1_isFlagClashing 43 = .ok (.iload_n 1, 1) := by decide +kernel
theorem dX1_isFlagClashing_44 : decode cX1_isFlagClashing 44 = .ok (.iconst 1, 1) := by decide +kernel
theorem dX1_isFlagClashing_45 : decode cX1_isFlagClashing 45 = .ok (.iconst 1, 1) := by decide +kernel
theorem dX1_isFlagClashing_46 : decode cX1_isFlagClashing 46 = .ok (.invokevirtual 140, 3) := by decide +kernel
theorem dX1_isFlagClashing_49 : decode cX1_isFlagClashing 49 = .ok (.invokevirtual 121, 3) := by decide +kernel
theorem dX1_isFlagClashing_52 : decode cX1_isFlagClashing 52 = .ok (.ifCond .eq 7, 3) := by decide +kernel
theorem dX1_isFlagClashing_55 : decode cX1_isFlagClashing 55 = .ok (.iconst 1, 1) := by decide +kernel
theorem dX1_isFlagClashing_56 : decode cX1_isFlagClashing 56 = .ok (.goto 72, 3) := by decide +kernel
theorem dX1_isFlagClashing_59 : decode cX1_isFlagClashing 59 = .ok (.iconst 0, 1) := by decide +kernel
theorem dX1_isFlagClashing_60 : decode cX1_isFlagClashing 60 = .ok (.goto 68, 3) := by decide +kernel
theorem dX1_isFlagClashing_63 : decode cX1_isFlagClashing 63 = .ok (.iload_n 3, 1) := by decide +kernel
theorem dX1_isFlagClashing_64 : decode cX1_isFlagClashing 64 = .ok (.iconst 1, 1) := by decide +kernel
theorem dX1_isFlagClashing_65 : decode cX1_isFlagClashing 65 = .ok (.if_icmp .ne 21, 3) := by decide +kernel
theorem dX1_isFlagClashing_68 : decode cX1_isFlagClashing 68 = .ok (.aload_n 0, 1) := by decide +kernel
theorem dX1_isFlagClashing_69 : decode cX1_isFlagClashing 69 = .ok (.aload_n 0, 1) := by decide +kernel
theorem dX1_isFlagClashing_70 : decode cX1_isFlagClashing 70 = .ok (.iload_n 1, 1) := by decide +kernel
theorem dX1_isFlagClashing_71 : decode cX1_isFlagClashing 71 = .ok (.iconst 0, 1) := by decide +kernel
theorem dX1_isFlagClashing_72 : decode cX1_isFlagClashing 72 = .ok (.iconst 1, 1) := by decide +kernel
theorem dX1_isFlagClashing_73 : decode cX1_isFlagClashing 73 = .ok (.invokevirtual 140, 3) := by decide +kernel
theorem dX1_isFlagClashing_76 : decode cX1_isFlagClashing 76 = .ok (.invokevirtual 121, 3) := by decide +kernel
theorem dX1_isFlagClashing_79 : decode cX1_isFlagClashing 79 = .ok (.ifCond .eq 7, 3) := by decide +kernel
theorem dX1_isFlagClashing_82 : decode cX1_isFlagClashing 82 = .ok (.iconst 1, 1) := by decide +kernel
theorem dX1_isFlagClashing_83 : decode cX1_isFlagClashing 83 = .ok (.goto 45, 3) := by decide +kernel
theorem dX1_isFlagClashing_86 : decode cX1_isFlagClashing 86 = .ok (.iconst 0, 1) := by decide +kernel
theorem dX1_isFlagClashing_87 : decode cX1_isFlagClashing 87 = .ok (.goto 41, 3) := by decide +kernel
theorem dX1_isFlagClashing_90 : decode cX1_isFlagClashing 90 = .ok (.iload_n 3, 1) := by decide +kernel
theorem dX1_isFlagClashing_91 : decode cX1_isFlagClashing 91 = .ok (.ifCond .ne 32, 3) := by decide +kernel
theorem dX1_isFlagClashing_94 : decode cX1_isFlagClashing 94 = .ok (.aload_n 0, 1) := by decide +kernel
theorem dX1_isFlagClashing_95 : decode cX1_isFlagClashing 95 = .ok (.getfield 52, 3) := by decide +kernel
theorem dX1_isFlagClashing_98 : decode cX1_isFlagClashing 98 = .ok (.iload_n 1, 1) := by decide +kernel
theorem dX1_isFlagClashing_99 : decode cX1_isFlagClashing 99 = .ok (.invokevirtual 149, 3) := by decide +kernel
theorem dX1_isFlagClashing_102 : decode cX1_isFlagClashing 102 = .ok (.iconst 3, 1) := by decide +kernel
theorem dX1_isFlagClashing_103 : decode cX1_isFlagClashing 103 = .ok (.if_icmp .ne 20, 3) := by decide +kernel
theorem dX1_isFlagClashing_106 : decode cX1_isFlagClashing 106 = .ok (.aload_n 0, 1) := by decide +kernel
theorem dX1_isFlagClashing_107 : decode cX1_isFlagClashing 107 = .ok (.aload_n 0, 1) := by decide +kernel
theorem dX1_isFlagClashing_108 : decode cX1_isFlagClashing 108 = .ok (.getfield 28, 3) := by decide +kernel
theorem dX1_isFlagClashing_111 : decode cX1_isFlagClashing 111 = .ok (.iload_n 1, 1) := by decide +kernel
theorem dX1_isFlagClashing_112 : decode cX1_isFlagClashing 112 = .ok (.iaload, 1) := by decide +kernel
theorem dX1_isFlagClashing_113 : decode cX1_isFlagClashing 113 = .ok (.invokevirtual 121, 3) := by decide +kernel
theorem dX1_isFlagClashing_116 : decode cX1_isFlagClashing 116 = .ok (.ifCond .eq 7, 3) := by decide +kernel
theorem dX1_isFlagClashing_119 : decode cX1_isFlagClashing 119 = .ok (.iconst 1, 1) := by decide +kernel
theorem dX1_isFlagClashing_120 : decode cX1_isFlagClashing 120 = .ok (.goto 8, 3) := by decide +kernel
theorem dX1_isFlagClashing_123 : decode cX1_isFlagClashing 123 = .ok (.iconst 0, 1) := by decide +kernel
theorem dX1_isFlagClashing_124 : decode cX1_isFlagClashing 124 = .ok (.goto 4, 3) := by decide +kernel
theorem dX1_isFlagClashing_127 : decode cX1_isFlagClashing 127 = .ok (.iconst 0, 1) := by decide +kernel
theorem dX1_isFlagClashing_128 : decode cX1_isFlagClashing 128 = .ok (.ireturn, 1) := by decide +kernel
theorem dX1_saying_0 : decode cX1_saying 0 = .ok (.aload_n 0, 1) := by decide +kernel
theorem dX1_saying_1 : decode cX1_saying 1 = .ok (.getfield 34, 3) := by decide +kernel
theorem dX1_saying_4 : decode cX1_saying 4 = .ok (.iload_n 1, 1) := by decide +kernel
theorem dX1_saying_5 : decode cX1_saying 5 = .ok (.bipush 6, 2) := by decide +kernel
theorem dX1_saying_7 : decode cX1_saying 7 = .ok (.imul, 1) := by decide +kernel
theorem dX1_saying_8 : decode cX1_saying 8 = .ok (.iload_n 2, 1) := by decide +kernel
theorem dX1_saying_9 : decode cX1_saying 9 = .ok (.iadd, 1) := by decide +kernel
theorem dX1_saying_10 : decode cX1_saying 10 = .ok (.iaload, 1) := by decide +kernel
theorem dX1_saying_11 : decode cX1_saying 11 = .ok (.istore 4, 2) := by decide +kernel
theorem dX1_saying_13 : decode cX1_saying 13 = .ok (.iload 4, 2) := by decide +kernel
theorem dX1_saying_15 : decode cX1_saying 15 = .ok (.bipush (-9), 2) := by decide +kernel
theorem dX1_saying_17 : decode cX1_saying 17 = .ok (.if_icmp .eq 19, 3) := by decide +kernel
theorem dX1_saying_20 : decode cX1_saying 20 = .ok (.aload_n 0, 1) := by decide +kernel
theorem dX1_saying_21 : decode cX1_saying 21 = .ok (.getfield 21, 3) := by decide +kernel
theorem dX1_saying_24 : decode cX1_saying 24 = .ok (.iload 4, 2) := by decide +kernel
theorem dX1_saying_26 : decode cX1_saying 26 = .ok (.iaload, 1) := by decide +kernel
theorem dX1_saying_27 : decode cX1_saying 27 = .ok (.iload_n 3, 1) := by decide +kernel
theorem dX1_saying_28 : decode cX1_saying 28 = .ok (.if_icmp .ne 8, 3) := by decide +kernel
theorem dX1_saying_31 : decode cX1_saying 31 = .ok (.iload 4, 2) := by decide +kernel
theorem dX1_saying_33 : decode cX1_saying 33 = .ok (.goto 5, 3) := by decide +kernel
theorem dX1_saying_36 : decode cX1_saying 36 = .ok (.bipush (-9), 2) := by decide +kernel
theorem dX1_saying_38 : decode cX1_saying 38 = .ok (.ireturn, 1) := by decide +kernel
theorem dX2_init_0 : decode cX2_init 0 = .ok (.aload_n 0, 1) := by decide +kernel
theorem dX2_init_1 : decode cX2_init 1 = .ok (.invokespecial 3, 3) := by decide +kernel
theorem dX2_init_4 : decode cX2_init 4 = .ok (.aload_n 0, 1) := by decide +kernel
theorem dX2_init_5 : decode cX2_init 5 = .ok (.bipush 100, 2) := by decide +kernel
theorem dX2_init_7 : decode cX2_init 7 = .ok (.newarray .int, 2) := by decide +kernel
theorem dX2_init_9 : decode cX2_init 9 = .ok (.putfield 9, 3) := by decide +kernel
theorem dX2_init_12 : decode cX2_init 12 = .ok (.aload_n 0, 1) := by decide +kernel
theorem dX2_init_13 : decode cX2_init 13 = .ok (.aload_n 1, 1) := by decide +kernel
theorem dX2_init_14 : decode cX2_init 14 = .ok (.putfield 15, 3) := by decide +kernel
theorem dX2_init_17 : decode cX2_init 17 = .ok (.return_, 1) := by decide +kernel
theorem dX2_clearTrace_0 : decode cX2_clearTrace 0 = .ok (.aload_n 0, 1) := by decide +kernel
theorem dX2_clearTrace_1 : decode cX2_clearTrace 1 = .ok (.iconst 0, 1) := by decide +kernel
theorem dX2_clearTrace_2 : decode cX2_clearTrace 2 = .ok (.putfield 19, 3) := by decide +kernel
theorem dX2_clearTrace_5 : decode cX2_clearTrace 5 = .ok (.return_, 1) := by decide +kernel
theorem dX2_weigh_0 : decode cX2_weigh 0 = .ok (.aload_n 0, 1) := by decide +kernel
theorem dX2_weigh_1 : decode cX2_weigh 1 = .ok (.aload_n 1, 1) := by decide +kernel
theorem dX2_weigh_2 : decode cX2_weigh 2 = .ok (.iload_n 2, 1) := by decide +kernel
theorem dX2_weigh_3 : decode cX2_weigh 3 = .ok (.iconst 0, 1) := by decide +kernel
theorem dX2_weigh_4 : decode cX2_weigh 4 = .ok (.invokevirtual 23, 3) := by decide +kernel
theorem dX2_weigh_7 : decode cX2_weigh 7 = .ok (.ireturn, 1) := by decide +kernel
theorem dX2_weighTraced_0 : decode cX2_weighTraced 0 = .ok (.aload_n 0, 1) := by decide +kernel
theorem dX2_weighTraced_1 : decode cX2_weighTraced 1 = .ok (.iconst 1, 1) := by decide +kernel
theorem dX2_weighTraced_2 : decode cX2_weighTraced 2 = .ok (.putfield 27, 3) := by decide +kernel
theorem dX2_weighTraced_5 : decode cX2_weighTraced 5 = .ok (.aload_n 0, 1) := by decide +kernel
theorem dX2_weighTraced_6 : decode cX2_weighTraced 6 = .ok (.aload_n 1, 1) := by decide +kernel
theorem dX2_weighTraced_7 : decode cX2_weighTraced 7 = .ok (.iload_n 2, 1) := by decide +kernel
theorem dX2_weighTraced_8 : decode cX2_weighTraced 8 = .ok (.iconst 0, 1) := by decide +kernel
theorem dX2_weighTraced_9 : decode cX2_weighTraced 9 = .ok (.invokevirtual 23, 3) := by decide +kernel
theorem dX2_weighTraced_12 : decode cX2_weighTraced 12 = .ok (.istore_n 3, 1) := by decide +kernel
theorem dX2_weighTraced_13 : decode cX2_weighTraced 13 = .ok (.aload_n 0, 1) := by decide +kernel
theorem dX2_weighTraced_14 : decode cX2_weighTraced 14 = .ok (.iconst 0, 1) := by decide +kernel
theorem dX2_weighTraced_15 : decode cX2_weighTraced 15 = .ok (.putfield 27, 3) := by decide +kernel
theorem dX2_weighTraced_18 : decode cX2_weighTraced 18 = .ok (.iload_n 3, 1) := by decide +kernel
theorem dX2_weighTraced_19 : decode cX2_weighTraced 19 = .ok (.ireturn, 1) := by decide +kernel
theorem dX2_weighAllOf_0 : decode cX2_weighAllOf 0 = .ok (.iconst 0, 1) := by decide +kernel
theorem dX2_weighAllOf_1 : decode cX2_weighAllOf 1 = .ok (.istore_n 3, 1) := by decide +kernel
theorem dX2_weighAllOf_2 : decode cX2_weighAllOf 2 = .ok (.iconst 0, 1) := by decide +kernel
theorem dX2_weighAllOf_3 : decode cX2_weighAllOf 3 = .ok (.istore 4, 2) := by decide +kernel
theorem dX2_weighAllOf_5 : decode cX2_weighAllOf 5 = .ok (.iload 4, 2) := by decide +kernel
theorem dX2_weighAllOf_7 : decode cX2_weighAllOf 7 = .ok (.aload_n 0, 1) := by decide +kernel
theorem dX2_weighAllOf_8 : decode cX2_weighAllOf 8 = .ok (.getfield 15, 3) := by decide +kernel
theorem dX2_weighAllOf_11 : decode cX2_weighAllOf 11 = .ok (.getfield 31, 3) := by decide +kernel
theorem dX2_weighAllOf_14 : decode cX2_weighAllOf 14 = .ok (.if_icmp .ge 30, 3) := by decide +kernel
theorem dX2_weighAllOf_17 : decode cX2_weighAllOf 17 = .ok (.aload_n 1, 1) := by decide +kernel
theorem dX2_weighAllOf_18 : decode cX2_weighAllOf 18 = .ok (.iload 4, 2) := by decide +kernel
theorem dX2_weighAllOf_20 : decode cX2_weighAllOf 20 = .ok (.invokevirtual 36, 3) := by decide +kernel
theorem dX2_weighAllOf_23 : decode cX2_weighAllOf 23 = .ok (.iload_n 2, 1) := by decide +kernel
theorem dX2_weighAllOf_24 : decode cX2_weighAllOf 24 = .ok (.if_icmp .ne 14, 3) := by decide +kernel
theorem dX2_weighAllOf_27 : decode cX2_weighAllOf 27 = .ok (.iload_n 3, 1) := by decide +kernel
theorem dX2_weighAllOf_28 : decode cX2_weighAllOf 28 = .ok (.aload_n 0, 1) := by decide +kernel
theorem dX2_weighAllOf_29 : decode cX2_weighAllOf 29 = .ok (.aload_n 1, 1) := by decide +kernel
theorem dX2_weighAllOf_30 : decode cX2_weighAllOf 30 = .ok (.iload 4, 2) := by decide +kernel
theorem dX2_weighAllOf_32 : decode cX2_weighAllOf 32 = .ok (.iconst 0, 1) := by decide +kernel
theorem dX2_weighAllOf_33 : decode cX2_weighAllOf 33 = .ok (.invokevirtual 23, 3) := by decide +kernel
theorem dX2_weighAllOf_36 : decode cX2_weighAllOf 36 = .ok (.iadd, 1) := by decide +kernel
theorem dX2_weighAllOf_37 : decode cX2_weighAllOf 37 = .ok (.istore_n 3, 1) := by decide +kernel
theorem dX2_weighAllOf_38 : decode cX2_weighAllOf 38 = .ok (.iinc 4 1, 3) := by decide +kernel
theorem dX2_weighAllOf_41 : decode cX2_weighAllOf 41 = .ok (.goto (-36), 3) := by decide +kernel
theorem dX2_weighAllOf_44 : decode cX2_weighAllOf 44 = .ok (.iload_n 3, 1) := by decide +kernel
theorem dX2_weighAllOf_45 : decode cX2_weighAllOf 45 = .ok (.ireturn, 1) := by decide +kernel
theorem dX2_weighBy_0 : decode cX2_weighBy 0 = .ok (.iload_n 3, 1) := by decide +kernel
theorem dX2_weighBy_1 : decode cX2_weighBy 1 = .ok (.bipush 30, 2) := by decide +kernel
theorem dX2_weighBy_3 : decode cX2_weighBy 3 = .ok (.if_icmp .le 5, 3) := by decide +kernel
theorem dX2_weighBy_6 : decode cX2_weighBy 6 = .ok (.iconst 0, 1) := by decide +kernel
theorem dX2_weighBy_7 : decode cX2_weighBy 7 = .ok (.ireturn, 1) := by decide +kernel
theorem dX2_weighBy_8 : decode cX2_weighBy 8 = .ok (.aload_n 0, 1) := by decide +kernel
theorem dX2_weighBy_9 : decode cX2_weighBy 9 = .ok (.getfield 15, 3) := by decide +kernel
theorem dX2_weighBy_12 : decode cX2_weighBy 12 = .ok (.iload_n 2, 1) := by decide +kernel
theorem dX2_weighBy_13 : decode cX2_weighBy 13 = .ok (.invokevirtual 42, 3) := by decide +kernel
theorem dX2_weighBy_16 : decode cX2_weighBy 16 = .ok (.istore 4, 2) := by decide +kernel
theorem dX2_weighBy_18 : decode cX2_weighBy 18 = .ok (.aload_n 0, 1) := by decide +kernel
theorem dX2_weighBy_19 : decode cX2_weighBy 19 = .ok (.iload 4, 2) := by decide +kernel
theorem dX2_weighBy_21 : decode cX2_weighBy 21 = .ok (.invokevirtual 45, 3) := by decide +kernel
theorem dX2_weighBy_24 : decode cX2_weighBy 24 = .ok (.aload_n 0, 1) := by decide +kernel
theorem dX2_weighBy_25 : decode cX2_weighBy 25 = .ok (.getfield 15, 3) := by decide +kernel
theorem dX2_weighBy_28 : decode cX2_weighBy 28 = .ok (.getfield 49, 3) := by decide +kernel
theorem dX2_weighBy_31 : decode cX2_weighBy 31 = .ok (.iload_n 2, 1) := by decide +kernel
theorem dX2_weighBy_32 : decode cX2_weighBy 32 = .ok (.iaload, 1) := by decide +kernel
theorem dX2_weighBy_33 : decode cX2_weighBy 33 = .ok (.istore 5, 2) := by decide +kernel
theorem dX2_weighBy_35 : decode cX2_weighBy 35 = .ok (.iload 4, 2) := by decide +kernel
theorem dX2_weighBy_37 : decode cX2_weighBy 37 = .ok (.tableswitch 84 2 5 #[59, 31, 45, 77], 31) := by decide +kernel
theorem dX2_weighBy_68 : decode cX2_weighBy 68 = .ok (.iload 5, 2) := by decide +kernel
theorem dX2_weighBy_70 : decode cX2_weighBy 70 = .ok (.aload_n 0, 1) := by decide +kernel
theorem dX2_weighBy_71 : decode cX2_weighBy 71 = .ok (.aload_n 1, 1) := by decide +kernel
theorem dX2_weighBy_72 : decode cX2_weighBy 72 = .ok (.iconst 0, 1) := by decide +kernel
theorem dX2_weighBy_73 : decode cX2_weighBy 73 = .ok (.iload_n 2, 1) := by decide +kernel
theorem dX2_weighBy_74 : decode cX2_weighBy 74 = .ok (.iload_n 3, 1) := by decide +kernel
theorem dX2_weighBy_75 : decode cX2_weighBy 75 = .ok (.invokevirtual 52, 3) := by decide +kernel
theorem dX2_weighBy_78 : decode cX2_weighBy 78 = .ok (.iadd, 1) := by decide +kernel
theorem dX2_weighBy_79 : decode cX2_weighBy 79 = .ok (.goto 44, 3) := by decide +kernel
theorem dX2_weighBy_82 : decode cX2_weighBy 82 = .ok (.iload 5, 2) := by decide +kernel
theorem dX2_weighBy_84 : decode cX2_weighBy 84 = .ok (.aload_n 0, 1) := by decide +kernel
theorem dX2_weighBy_85 : decode cX2_weighBy 85 = .ok (.aload_n 1, 1) := by decide +kernel
theorem dX2_weighBy_86 : decode cX2_weighBy 86 = .ok (.iconst 1, 1) := by decide +kernel
theorem dX2_weighBy_87 : decode cX2_weighBy 87 = .ok (.iload_n 2, 1) := by decide +kernel
theorem dX2_weighBy_88 : decode cX2_weighBy 88 = .ok (.iload_n 3, 1) := by decide +kernel
theorem dX2_weighBy_89 : decode cX2_weighBy 89 = .ok (.invokevirtual 52, 3) := by decide +kernel
theorem dX2_weighBy_92 : decode cX2_weighBy 92 = .ok (.iadd, 1) := by decide +kernel
theorem dX2_weighBy_93 : decode cX2_weighBy 93 = .ok (.goto 30, 3) := by decide +kernel
theorem dX2_weighBy_96 : decode cX2_weighBy 96 = .ok (.iload 5, 2) := by decide +kernel
theorem dX2_weighBy_98 : decode cX2_weighBy 98 = .ok (.ifCond .ne 8, 3) := by decide +kernel
theorem dX2_weighBy_101 : decode cX2_weighBy 101 = .ok (.bipush (-9), 2) := by decide +kernel
theorem dX2_weighBy_103 : decode cX2_weighBy 103 = .ok (.goto 20, 3) := by decide +kernel
theorem dX2_weighBy_106 : decode cX2_weighBy 106 = .ok (.bipush 100, 2) := by decide +kernel
theorem dX2_weighBy_108 : decode cX2_weighBy 108 = .ok (.iload 5, 2) := by decide +kernel
theorem dX2_weighBy_110 : decode cX2_weighBy 110 = .ok (.idiv, 1) := by decide +kernel
theorem dX2_weighBy_111 : decode cX2_weighBy 111 = .ok (.goto 12, 3) := by decide +kernel
theorem dX2_weighBy_114 : decode cX2_weighBy 114 = .ok (.iconst 2, 1) := by decide +kernel
theorem dX2_weighBy_115 : decode cX2_weighBy 115 = .ok (.iload 5, 2) := by decide +kernel
theorem dX2_weighBy_117 : decode cX2_weighBy 117 = .ok (.imul, 1) := by decide +kernel
theorem dX2_weighBy_118 : decode cX2_weighBy 118 = .ok (.goto 5, 3) := by decide +kernel
theorem dX2_weighBy_121 : decode cX2_weighBy 121 = .ok (.iload 5, 2) := by decide +kernel
theorem dX2_weighBy_123 : decode cX2_weighBy 123 = .ok (.ireturn, 1) := by decide +kernel
theorem dX2_weighThose_0 : decode cX2_weighThose 0 = .ok (.iconst 0, 1) := by decide +kernel
theorem dX2_weighThose_1 : decode cX2_weighThose 1 = .ok (.istore 5, 2) := by decide +kernel
theorem dX2_weighThose_3 : decode cX2_weighThose 3 = .ok (.iconst 0, 1) := by decide +kernel
theorem dX2_weighThose_4 : decode cX2_weighThose 4 = .ok (.istore 6, 2) := by decide +kernel
theorem dX2_weighThose_6 : decode cX2_weighThose 6 = .ok (.iload 6, 2) := by decide +kernel
theorem dX2_weighThose_8 : decode cX2_weighThose 8 = .ok (.aload_n 0, 1) := by decide +kernel
theorem dX2_weighThose_9 : decode cX2_weighThose 9 = .ok (.getfield 15, 3) := by decide +kernel
theorem dX2_weighThose_12 : decode cX2_weighThose 12 = .ok (.getfield 31, 3) := by decide +kernel
theorem dX2_weighThose_15 : decode cX2_weighThose 15 = .ok (.if_icmp .ge 36, 3) := by decide +kernel
theorem dX2_weighThose_18 : decode cX2_weighThose 18 = .ok (.aload_n 1, 1) := by decide +kernel
theorem dX2_weighThose_19 : decode cX2_weighThose 19 = .ok (.iload 6, 2) := by decide +kernel
theorem dX2_weighThose_21 : decode cX2_weighThose 21 = .ok (.iload_n 2, 1) := by decide +kernel
theorem dX2_weighThose_22 : decode cX2_weighThose 22 = .ok (.iload_n 3, 1) := by decide +kernel
theorem dX2_weighThose_23 : decode cX2_weighThose 23 = .ok (.invokevirtual 56, 3) := by decide +kernel
theorem dX2_weighThose_26 : decode cX2_weighThose 26 = .ok (.ifCond .eq 19, 3) := by decide +kernel
theorem dX2_weighThose_29 : decode cX2_weighThose 29 = .ok (.iload 5, 2) := by decide +kernel
theorem dX2_weighThose_31 : decode cX2_weighThose 31 = .ok (.aload_n 0, 1) := by decide +kernel
theorem dX2_weighThose_32 : decode cX2_weighThose 32 = .ok (.aload_n 1, 1) := by decide +kernel
theorem dX2_weighThose_33 : decode cX2_weighThose 33 = .ok (.iload 6, 2) := by decide +kernel
theorem dX2_weighThose_35 : decode cX2_weighThose 35 = .ok (.iload 4, 2) := by decide +kernel
theorem dX2_weighThose_37 : decode cX2_weighThose 37 = .ok (.iconst 1, 1) := by decide +kernel
theorem dX2_weighThose_38 : decode cX2_weighThose 38 = .ok (.iadd, 1) := by decide +kernel
theorem dX2_weighThose_39 : decode cX2_weighThose 39 = .ok (.invokevirtual 23, 3) := by decide +kernel
theorem dX2_weighThose_42 : decode cX2_weighThose 42 = .ok (.iadd, 1) := by decide +kernel
theorem dX2_weighThose_43 : decode cX2_weighThose 43 = .ok (.istore 5, 2) := by decide +kernel
theorem dX2_weighThose_45 : decode cX2_weighThose 45 = .ok (.iinc 6 1, 3) := by decide +kernel
theorem dX2_weighThose_48 : decode cX2_weighThose 48 = .ok (.goto (-42), 3) := by decide +kernel
theorem dX2_weighThose_51 : decode cX2_weighThose 51 = .ok (.iload 5, 2) := by decide +kernel
theorem dX2_weighThose_53 : decode cX2_weighThose 53 = .ok (.ireturn, 1) := by decide +kernel
theorem dX2_noteBodies_0 : decode cX2_noteBodies 0 = .ok (.iload_n 1, 1) := by decide +kernel
theorem dX2_noteBodies_1 : decode cX2_noteBodies 1 = .ok (.iconst 3, 1) := by decide +kernel
theorem dX2_noteBodies_2 : decode cX2_noteBodies 2 = .ok (.if_icmp .eq 18, 3) := by decide +kernel
theorem dX2_noteBodies_5 : decode cX2_noteBodies 5 = .ok (.iload_n 1, 1) := by decide +kernel
theorem dX2_noteBodies_6 : decode cX2_noteBodies 6 = .ok (.iconst 4, 1) := by decide +kernel
theorem dX2_noteBodies_7 : decode cX2_noteBodies 7 = .ok (.if_icmp .eq 13, 3) := by decide +kernel
theorem dX2_noteBodies_10 : decode cX2_noteBodies 10 = .ok (.iload_n 1, 1) := by decide +kernel
theorem dX2_noteBodies_11 : decode cX2_noteBodies 11 = .ok (.iconst 2, 1) := by decide +kernel
theorem dX2_noteBodies_12 : decode cX2_noteBodies 12 = .ok (.if_icmp .eq 8, 3) := by decide +kernel
theorem dX2_noteBodies_15 : decode cX2_noteBodies 15 = .ok (.iload_n 1, 1) := by decide +kernel
theorem dX2_noteBodies_16 : decode cX2_noteBodies 16 = .ok (.iconst 5, 1) := by decide +kernel
theorem dX2_noteBodies_17 : decode cX2_noteBodies 17 = .ok (.if_icmp .ne 12, 3) := by decide +kernel
theorem dX2_noteBodies_20 : decode cX2_noteBodies 20 = .ok (.aload_n 0, 1) := by decide +kernel
theorem dX2_noteBodies_21 : decode cX2_noteBodies 21 = .ok (.getstatic 60, 3) := by decide +kernel
theorem dX2_noteBodies_24 : decode cX2_noteBodies 24 = .ok (.iload_n 1, 1) := by decide +kernel
theorem dX2_noteBodies_25 : decode cX2_noteBodies 25 = .ok (.iaload, 1) := by decide +kernel
theorem dX2_noteBodies_26 : decode cX2_noteBodies 26 = .ok (.invokevirtual 63, 3) := by decide +kernel
theorem dX2_noteBodies_29 : decode cX2_noteBodies 29 = .ok (.aload_n 0, 1) := by decide +kernel
theorem dX2_noteBodies_30 : decode cX2_noteBodies 30 = .ok (.getstatic 60, 3) := by decide +kernel
theorem dX2_noteBodies_33 : decode cX2_noteBodies 33 = .ok (.iconst 1, 1) := by decide +kernel
theorem dX2_noteBodies_34 : decode cX2_noteBodies 34 = .ok (.iaload, 1) := by decide +kernel
theorem dX2_noteBodies_35 : decode cX2_noteBodies 35 = .ok (.invokevirtual 63, 3) := by decide +kernel
theorem dX2_noteBodies_38 : decode cX2_noteBodies 38 = .ok (.return_, 1) := by decide +kernel
theorem dX2_note_0 : decode cX2_note 0 = .ok (.aload_n 0, 1) := by decide +kernel
theorem dX2_note_1 : decode cX2_note 1 = .ok (.getfield 27, 3) := by decide +kernel
theorem dX2_note_4 : decode cX2_note 4 = .ok (.ifCond .eq 29, 3) := by decide +kernel
theorem dX2_note_7 : decode cX2_note 7 = .ok (.aload_n 0, 1) := by decide +kernel
theorem dX2_note_8 : decode cX2_note 8 = .ok (.getfield 19, 3) := by decide +kernel
theorem dX2_note_11 : decode cX2_note 11 = .ok (.bipush 100, 2) := by decide +kernel
theorem dX2_note_13 : decode cX2_note 13 = .ok (.if_icmp .ge 20, 3) := by decide +kernel
theorem dX2_note_16 : decode cX2_note 16 = .ok (.aload_n 0, 1) := by decide +kernel
theorem dX2_note_17 : decode cX2_note 17 = .ok (.getfield 9, 3) := by decide +kernel
theorem dX2_note_20 : decode cX2_note 20 = .ok (.aload_n 0, 1) := by decide +kernel
theorem dX2_note_21 : decode cX2_note 21 = .ok (.dup, 1) := by decide +kernel
theorem dX2_note_22 : decode cX2_note 22 = .ok (.getfield 19, 3) := by decide +kernel
theorem dX2_note_25 : decode cX2_note 25 = .ok (.dup_x1, 1) := by decide +kernel
theorem dX2_note_26 : decode cX2_note 26 = .ok (.iconst 1, 1) := by decide +kernel
theorem dX2_note_27 : decode cX2_note 27 = .ok (.iadd, 1) := by decide +kernel
theorem dX2_note_28 : decode cX2_note 28 = .ok (.putfield 19, 3) := by decide +kernel
theorem dX2_note_31 : decode cX2_note 31 = .ok (.iload_n 1, 1) := by decide +kernel
theorem dX2_note_32 : decode cX2_note 32 = .ok (.iastore, 1) := by decide +kernel
theorem dX2_note_33 : decode cX2_note 33 = .ok (.return_, 1) := by decide +kernel
theorem dX3_init_0 : decode cX3_init 0 = .ok (.aload_n 0, 1) := by decide +kernel
theorem dX3_init_1 : decode cX3_init 1 = .ok (.invokespecial 3, 3) := by decide +kernel
theorem dX3_init_4 : decode cX3_init 4 = .ok (.aload_n 0, 1) := by decide +kernel
theorem dX3_init_5 : decode cX3_init 5 = .ok (.bipush 10, 2) := by decide +kernel
theorem dX3_init_7 : decode cX3_init 7 = .ok (.newarray .int, 2) := by decide +kernel
theorem dX3_init_9 : decode cX3_init 9 = .ok (.putfield 9, 3) := by decide +kernel
theorem dX3_init_12 : decode cX3_init 12 = .ok (.aload_n 0, 1) := by decide +kernel
theorem dX3_init_13 : decode cX3_init 13 = .ok (.bipush 10, 2) := by decide +kernel
theorem dX3_init_15 : decode cX3_init 15 = .ok (.newarray .int, 2) := by decide +kernel
theorem dX3_init_17 : decode cX3_init 17 = .ok (.putfield 15, 3) := by decide +kernel
theorem dX3_init_20 : decode cX3_init 20 = .ok (.aload_n 0, 1) := by decide +kernel
theorem dX3_init_21 : decode cX3_init 21 = .ok (.bipush 120, 2) := by decide +kernel
theorem dX3_init_23 : decode cX3_init 23 = .ok (.newarray .int, 2) := by decide +kernel
theorem dX3_init_25 : decode cX3_init 25 = .ok (.putfield 18, 3) := by decide +kernel
theorem dX3_init_28 : decode cX3_init 28 = .ok (.aload_n 0, 1) := by decide +kernel
theorem dX3_init_29 : decode cX3_init 29 = .ok (.getfield 18, 3) := by decide +kernel
theorem dX3_init_32 : decode cX3_init 32 = .ok (.bipush (-9), 2) := by decide +kernel
theorem dX3_init_34 : decode cX3_init 34 = .ok (.invokestatic 21, 3) := by decide +kernel
theorem dX3_init_37 : decode cX3_init 37 = .ok (.return_, 1) := by decide +kernel
theorem dX3_open_0 : decode cX3_open 0 = .ok (.aload_n 0, 1) := by decide +kernel
theorem dX3_open_1 : decode cX3_open 1 = .ok (.getfield 9, 3) := by decide +kernel
theorem dX3_open_4 : decode cX3_open 4 = .ok (.aload_n 0, 1) := by decide +kernel
theorem dX3_open_5 : decode cX3_open 5 = .ok (.getfield 27, 3) := by decide +kernel
theorem dX3_open_8 : decode cX3_open 8 = .ok (.iload_n 1, 1) := by decide +kernel
theorem dX3_open_9 : decode cX3_open 9 = .ok (.iastore, 1) := by decide +kernel
theorem dX3_open_10 : decode cX3_open 10 = .ok (.aload_n 0, 1) := by decide +kernel
theorem dX3_open_11 : decode cX3_open 11 = .ok (.getfield 15, 3) := by decide +kernel
theorem dX3_open_14 : decode cX3_open 14 = .ok (.aload_n 0, 1) := by decide +kernel
theorem dX3_open_15 : decode cX3_open 15 = .ok (.getfield 27, 3) := by decide +kernel
theorem dX3_open_18 : decode cX3_open 18 = .ok (.iload_n 2, 1) := by decide +kernel
theorem dX3_open_19 : decode cX3_open 19 = .ok (.iastore, 1) := by decide +kernel
theorem dX3_open_20 : decode cX3_open 20 = .ok (.aload_n 0, 1) := by decide +kernel
theorem dX3_open_21 : decode cX3_open 21 = .ok (.dup, 1) := by decide +kernel
theorem dX3_open_22 : decode cX3_open 22 = .ok (.getfield 27, 3) := by decide +kernel
theorem dX3_open_25 : decode cX3_open 25 = .ok (.dup_x1, 1) := by decide +kernel
theorem dX3_open_26 : decode cX3_open 26 = .ok (.iconst 1, 1) := by decide +kernel
theorem dX3_open_27 : decode cX3_open 27 = .ok (.iadd, 1) := by decide +kernel
theorem dX3_open_28 : decode cX3_open 28 = .ok (.putfield 27, 3) := by decide +kernel
theorem dX3_open_31 : decode cX3_open 31 = .ok (.ireturn, 1) := by decide +kernel
theorem dX4_init_0 : decode cX4_init 0 = .ok (.aload_n 0, 1) := by decide +kernel
theorem dX4_init_1 : decode cX4_init 1 = .ok (.invokespecial 3, 3) := by decide +kernel
theorem dX4_init_4 : decode cX4_init 4 = .ok (.aload_n 0, 1) := by decide +kernel
theorem dX4_init_5 : decode cX4_init 5 = .ok (.bipush 30, 2) := by decide +kernel
theorem dX4_init_7 : decode cX4_init 7 = .ok (.newarray .int, 2) := by decide +kernel
theorem dX4_init_9 : decode cX4_init 9 = .ok (.putfield 9, 3) := by decide +kernel
theorem dX4_init_12 : decode cX4_init 12 = .ok (.aload_n 0, 1) := by decide +kernel
theorem dX4_init_13 : decode cX4_init 13 = .ok (.bipush 30, 2) := by decide +kernel
theorem dX4_init_15 : decode cX4_init 15 = .ok (.newarray .int, 2) := by decide +kernel
theorem dX4_init_17 : decode cX4_init 17 = .ok (.putfield 15, 3) := by decide +kernel
theorem dX4_init_20 : decode cX4_init 20 = .ok (.aload_n 0, 1) := by decide +kernel
theorem dX4_init_21 : decode cX4_init 21 = .ok (.sipush 360, 3) := by decide +kernel
theorem dX4_init_24 : decode cX4_init 24 = .ok (.newarray .long, 2) := by decide +kernel
theorem dX4_init_26 : decode cX4_init 26 = .ok (.putfield 18, 3) := by decide +kernel
theorem dX4_init_29 : decode cX4_init 29 = .ok (.aload_n 0, 1) := by decide +kernel
theorem dX4_init_30 : decode cX4_init 30 = .ok (.getfield 9, 3) := by decide +kernel
theorem dX4_init_33 : decode cX4_init 33 = .ok (.bipush (-9), 2) := by decide +kernel
theorem dX4_init_35 : decode cX4_init 35 = .ok (.invokestatic 22, 3) := by decide +kernel
theorem dX4_init_38 : decode cX4_init 38 = .ok (.return_, 1) := by decide +kernel
theorem dX4_lay_0 : decode cX4_lay 0 = .ok (.aload_n 0, 1) := by decide +kernel
theorem dX4_lay_1 : decode cX4_lay 1 = .ok (.getfield 9, 3) := by decide +kernel
theorem dX4_lay_4 : decode cX4_lay 4 = .ok (.iload_n 1, 1) := by decide +kernel
theorem dX4_lay_5 : decode cX4_lay 5 = .ok (.iload_n 2, 1) := by decide +kernel
theorem dX4_lay_6 : decode cX4_lay 6 = .ok (.iastore, 1) := by decide +kernel
theorem dX4_lay_7 : decode cX4_lay 7 = .ok (.aload_n 0, 1) := by decide +kernel
theorem dX4_lay_8 : decode cX4_lay 8 = .ok (.getfield 15, 3) := by decide +kernel
theorem dX4_lay_11 : decode cX4_lay 11 = .ok (.iload_n 1, 1) := by decide +kernel
theorem dX4_lay_12 : decode cX4_lay 12 = .ok (.iload_n 3, 1) := by decide +kernel
theorem dX4_lay_13 : decode cX4_lay 13 = .ok (.iastore, 1) := by decide +kernel
theorem dX4_lay_14 : decode cX4_lay 14 = .ok (.iconst 0, 1) := by decide +kernel
theorem dX4_lay_15 : decode cX4_lay 15 = .ok (.istore 4, 2) := by decide +kernel
theorem dX4_lay_17 : decode cX4_lay 17 = .ok (.iload 4, 2) := by decide +kernel
theorem dX4_lay_19 : decode cX4_lay 19 = .ok (.bipush 12, 2) := by decide +kernel
theorem dX4_lay_21 : decode cX4_lay 21 = .ok (.if_icmp .ge 22, 3) := by decide +kernel
theorem dX4_lay_24 : decode cX4_lay 24 = .ok (.aload_n 0, 1) := by decide +kernel
theorem dX4_lay_25 : decode cX4_lay 25 = .ok (.getfield 18, 3) := by decide +kernel
theorem dX4_lay_28 : decode cX4_lay 28 = .ok (.iload_n 1, 1) := by decide +kernel
theorem dX4_lay_29 : decode cX4_lay 29 = .ok (.bipush 12, 2) := by decide +kernel
theorem dX4_lay_31 : decode cX4_lay 31 = .ok (.imul, 1) := by decide +kernel
theorem dX4_lay_32 : decode cX4_lay 32 = .ok (.iload 4, 2) := by decide +kernel
theorem dX4_lay_34 : decode cX4_lay 34 = .ok (.iadd, 1) := by decide +kernel
theorem dX4_lay_35 : decode cX4_lay 35 = .ok (.lconst 0, 1) := by decide +kernel
theorem dX4_lay_36 : decode cX4_lay 36 = .ok (.lastore, 1) := by decide +kernel
theorem dX4_lay_37 : decode cX4_lay 37 = .ok (.iinc 4 1, 3) := by decide +kernel
theorem dX4_lay_40 : decode cX4_lay 40 = .ok (.goto (-23), 3) := by decide +kernel
theorem dX4_lay_43 : decode cX4_lay 43 = .ok (.return_, 1) := by decide +kernel
theorem dX4_isOther_0 : decode cX4_isOther 0 = .ok (.aload_n 0, 1) := by decide +kernel
theorem dX4_isOther_1 : decode cX4_isOther 1 = .ok (.getfield 9, 3) := by decide +kernel
theorem dX4_isOther_4 : decode cX4_isOther 4 = .ok (.iload_n 1, 1) := by decide +kernel
theorem dX4_isOther_5 : decode cX4_isOther 5 = .ok (.iaload, 1) := by decide +kernel
theorem dX4_isOther_6 : decode cX4_isOther 6 = .ok (.bipush (-9), 2) := by decide +kernel
theorem dX4_isOther_8 : decode cX4_isOther 8 = .ok (.if_icmp .eq 17, 3) := by decide +kernel
theorem dX4_isOther_11 : decode cX4_isOther 11 = .ok (.aload_n 0, 1) := by decide +kernel
theorem dX4_isOther_12 : decode cX4_isOther 12 = .ok (.getfield 9, 3) := by decide +kernel
theorem dX4_isOther_15 : decode cX4_isOther 15 = .ok (.iload_n 1, 1) := by decide +kernel
theorem dX4_isOther_16 : decode cX4_isOther 16 = .ok (.iaload, 1) := by decide +kernel
theorem dX4_isOther_17 : decode cX4_isOther 17 = .ok (.iload_n 2, 1) := by decide +kernel
theorem dX4_isOther_18 : decode cX4_isOther 18 = .ok (.if_icmp .eq 7, 3) := by decide +kernel
theorem dX4_isOther_21 : decode cX4_isOther 21 = .ok (.iconst 1, 1) := by decide +kernel
theorem dX4_isOther_22 : decode cX4_isOther 22 = .ok (.goto 4, 3) := by decide +kernel
theorem dX4_isOther_25 : decode cX4_isOther 25 = .ok (.iconst 0, 1) := by decide +kernel
theorem dX4_isOther_26 : decode cX4_isOther 26 = .ok (.ireturn, 1) := by decide +kernel
theorem dX4_hasRun_0 : decode cX4_hasRun 0 = .ok (.iload_n 2, 1) := by decide +kernel
theorem dX4_hasRun_1 : decode cX4_hasRun 1 = .ok (.ifCond .lt 33, 3) := by decide +kernel
theorem dX4_hasRun_4 : decode cX4_hasRun 4 = .ok (.iload_n 3, 1) := by decide +kernel
theorem dX4_hasRun_5 : decode cX4_hasRun 5 = .ok (.ifCond .lt 29, 3) := by decide +kernel
theorem dX4_hasRun_8 : decode cX4_hasRun 8 = .ok (.iload_n 2, 1) := by decide +kernel
theorem dX4_hasRun_9 : decode cX4_hasRun 9 = .ok (.aload_n 0, 1) := by decide +kernel
theorem dX4_hasRun_10 : decode cX4_hasRun 10 = .ok (.getfield 15, 3) := by decide +kernel
theorem dX4_hasRun_13 : decode cX4_hasRun 13 = .ok (.iload_n 1, 1) := by decide +kernel
theorem dX4_hasRun_14 : decode cX4_hasRun 14 = .ok (.iaload, 1) := by decide +kernel
theorem dX4_hasRun_15 : decode cX4_hasRun 15 = .ok (.if_icmp .gt 19, 3) := by decide +kernel
theorem dX4_hasRun_18 : decode cX4_hasRun 18 = .ok (.iload_n 3, 1) := by decide +kernel
theorem dX4_hasRun_19 : decode cX4_hasRun 19 = .ok (.aload_n 0, 1) := by decide +kernel
theorem dX4_hasRun_20 : decode cX4_hasRun 20 = .ok (.getfield 15, 3) := by decide +kernel
theorem dX4_hasRun_23 : decode cX4_hasRun 23 = .ok (.iload_n 1, 1) := by decide +kernel
theorem dX4_hasRun_24 : decode cX4_hasRun 24 = .ok (.iaload, 1) := by decide +kernel
theorem dX4_hasRun_25 : decode cX4_hasRun 25 = .ok (.iload_n 2, 1) := by decide +kernel
theorem dX4_hasRun_26 : decode cX4_hasRun 26 = .ok (.isub, 1) := by decide +kernel
theorem dX4_hasRun_27 : decode cX4_hasRun 27 = .ok (.if_icmp .gt 7, 3) := by decide +kernel
theorem dX4_hasRun_30 : decode cX4_hasRun 30 = .ok (.iconst 1, 1) := by decide +kernel
theorem dX4_hasRun_31 : decode cX4_hasRun 31 = .ok (.goto 4, 3) := by decide +kernel
theorem dX4_hasRun_34 : decode cX4_hasRun 34 = .ok (.iconst 0, 1) := by decide +kernel
theorem dX4_hasRun_35 : decode cX4_hasRun 35 = .ok (.ireturn, 1) := by decide +kernel
theorem dX4_cutTo_0 : decode cX4_cutTo 0 = .ok (.iload_n 1, 1) := by decide +kernel
theorem dX4_cutTo_1 : decode cX4_cutTo 1 = .ok (.tableswitch 49 0 2 #[27, 34, 40], 27) := by decide +kernel
theorem dX4_cutTo_28 : decode cX4_cutTo 28 = .ok (.lload_n 2, 1) := by decide +kernel
theorem dX4_cutTo_29 : decode cX4_cutTo 29 = .ok (.l2i, 1) := by decide +kernel
theorem dX4_cutTo_30 : decode cX4_cutTo 30 = .ok (.i2b, 1) := by decide +kernel
theorem dX4_cutTo_31 : decode cX4_cutTo 31 = .ok (.i2l, 1) := by decide +kernel
theorem dX4_cutTo_32 : decode cX4_cutTo 32 = .ok (.goto 19, 3) := by decide +kernel
theorem dX4_cutTo_35 : decode cX4_cutTo 35 = .ok (.lload_n 2, 1) := by decide +kernel
theorem dX4_cutTo_36 : decode cX4_cutTo 36 = .ok (.l2i, 1) := by decide +kernel
theorem dX4_cutTo_37 : decode cX4_cutTo 37 = .ok (.i2l, 1) := by decide +kernel
theorem dX4_cutTo_38 : decode cX4_cutTo 38 = .ok (.goto 13, 3) := by decide +kernel
theorem dX4_cutTo_41 : decode cX4_cutTo 41 = .ok (.lload_n 2, 1) := by decide +kernel
theorem dX4_cutTo_42 : decode cX4_cutTo 42 = .ok (.l2i, 1) := by decide +kernel
theorem dX4_cutTo_43 : decode cX4_cutTo 43 = .ok (.invokestatic 28, 3) := by decide +kernel
theorem dX4_cutTo_46 : decode cX4_cutTo 46 = .ok (.i2l, 1) := by decide +kernel
theorem dX4_cutTo_47 : decode cX4_cutTo 47 = .ok (.goto 4, 3) := by decide +kernel
theorem dX4_cutTo_50 : decode cX4_cutTo 50 = .ok (.lload_n 2, 1) := by decide +kernel
theorem dX4_cutTo_51 : decode cX4_cutTo 51 = .ok (.lreturn, 1) := by decide +kernel
theorem dX4_floatBits_0 : decode cX4_floatBits 0 = .ok (.iload_n 0, 1) := by decide +kernel
theorem dX4_floatBits_1 : decode cX4_floatBits 1 = .ok (.ldc 32, 2) := by decide +kernel
theorem dX4_floatBits_3 : decode cX4_floatBits 3 = .ok (.iand, 1) := by decide +kernel
theorem dX4_floatBits_4 : decode cX4_floatBits 4 = .ok (.ldc 33, 2) := by decide +kernel
theorem dX4_floatBits_6 : decode cX4_floatBits 6 = .ok (.if_icmp .le 8, 3) := by decide +kernel
theorem dX4_floatBits_9 : decode cX4_floatBits 9 = .ok (.ldc 34, 2) := by decide +kernel
theorem dX4_floatBits_11 : decode cX4_floatBits 11 = .ok (.goto 4, 3) := by decide +kernel
theorem dX4_floatBits_14 : decode cX4_floatBits 14 = .ok (.iload_n 0, 1) := by decide +kernel
theorem dX4_floatBits_15 : decode cX4_floatBits 15 = .ok (.ireturn, 1) := by decide +kernel
theorem dX5_init_0 : decode cX5_init 0 = .ok (.aload_n 0, 1) := by decide +kernel
theorem dX5_init_1 : decode cX5_init 1 = .ok (.invokespecial 3, 3) := by decide +kernel
theorem dX5_init_4 : decode cX5_init 4 = .ok (.aload_n 0, 1) := by decide +kernel
theorem dX5_init_5 : decode cX5_init 5 = .ok (.sipush 300, 3) := by decide +kernel
theorem dX5_init_8 : decode cX5_init 8 = .ok (.newarray .int, 2) := by decide +kernel
theorem dX5_init_10 : decode cX5_init 10 = .ok (.putfield 9, 3) := by decide +kernel
theorem dX5_init_13 : decode cX5_init 13 = .ok (.aload_n 0, 1) := by decide +kernel
theorem dX5_init_14 : decode cX5_init 14 = .ok (.sipush 300, 3) := by decide +kernel
theorem dX5_init_17 : decode cX5_init 17 = .ok (.newarray .int, 2) := by decide +kernel
theorem dX5_init_19 : decode cX5_init 19 = .ok (.putfield 15, 3) := by decide +kernel
theorem dX5_init_22 : decode cX5_init 22 = .ok (.aload_n 0, 1) := by decide +kernel
theorem dX5_init_23 : decode cX5_init 23 = .ok (.sipush 300, 3) := by decide +kernel
theorem dX5_init_26 : decode cX5_init 26 = .ok (.newarray .int, 2) := by decide +kernel
theorem dX5_init_28 : decode cX5_init 28 = .ok (.putfield 18, 3) := by decide +kernel
theorem dX5_init_31 : decode cX5_init 31 = .ok (.aload_n 0, 1) := by decide +kernel
theorem dX5_init_32 : decode cX5_init 32 = .ok (.sipush 300, 3) := by decide +kernel
theorem dX5_init_35 : decode cX5_init 35 = .ok (.newarray .int, 2) := by decide +kernel
theorem dX5_init_37 : decode cX5_init 37 = .ok (.putfield 21, 3) := by decide +kernel
theorem dX5_init_40 : decode cX5_init 40 = .ok (.aload_n 0, 1) := by decide +kernel
theorem dX5_init_41 : decode cX5_init 41 = .ok (.bipush 30, 2) := by decide +kernel
theorem dX5_init_43 : decode cX5_init 43 = .ok (.newarray .int, 2) := by decide +kernel
theorem dX5_init_45 : decode cX5_init 45 = .ok (.putfield 24, 3) := by decide +kernel
theorem dX5_init_48 : decode cX5_init 48 = .ok (.aload_n 0, 1) := by decide +kernel
theorem dX5_init_49 : decode cX5_init 49 = .ok (.bipush 30, 2) := by decide +kernel
theorem dX5_init_51 : decode cX5_init 51 = .ok (.newarray .int, 2) := by decide +kernel
theorem dX5_init_53 : decode cX5_init 53 = .ok (.putfield 27, 3) := by decide +kernel
theorem dX5_init_56 : decode cX5_init 56 = .ok (.aload_n 0, 1) := by decide +kernel
theorem dX5_init_57 : decode cX5_init 57 = .ok (.bipush 30, 2) := by decide +kernel
theorem dX5_init_59 : decode cX5_init 59 = .ok (.newarray .int, 2) := by decide +kernel
theorem dX5_init_61 : decode cX5_init 61 = .ok (.putfield 30, 3) := by decide +kernel
theorem dX5_init_64 : decode cX5_init 64 = .ok (.aload_n 0, 1) := by decide +kernel
theorem dX5_init_65 : decode cX5_init 65 = .ok (.bipush 30, 2) := by decide +kernel
theorem dX5_init_67 : decode cX5_init 67 = .ok (.newarray .int, 2) := by decide +kernel
theorem dX5_init_69 : decode cX5_init 69 = .ok (.putfield 33, 3) := by decide +kernel
theorem dX5_init_72 : decode cX5_init 72 = .ok (.aload_n 0, 1) := by decide +kernel
theorem dX5_init_73 : decode cX5_init 73 = .ok (.bipush 30, 2) := by decide +kernel
theorem dX5_init_75 : decode cX5_init 75 = .ok (.newarray .int, 2) := by decide +kernel
theorem dX5_init_77 : decode cX5_init 77 = .ok (.putfield 36, 3) := by decide +kernel
theorem dX5_init_80 : decode cX5_init 80 = .ok (.aload_n 0, 1) := by decide +kernel
theorem dX5_init_81 : decode cX5_init 81 = .ok (.aload_n 1, 1) := by decide +kernel
theorem dX5_init_82 : decode cX5_init 82 = .ok (.putfield 39, 3) := by decide +kernel
theorem dX5_init_85 : decode cX5_init 85 = .ok (.aload_n 0, 1) := by decide +kernel
theorem dX5_init_86 : decode cX5_init 86 = .ok (.aload_n 2, 1) := by decide +kernel
theorem dX5_init_87 : decode cX5_init 87 = .ok (.putfield 43, 3) := by decide +kernel
theorem dX5_init_90 : decode cX5_init 90 = .ok (.aload_n 0, 1) := by decide +kernel
theorem dX5_init_91 : decode cX5_init 91 = .ok (.invokevirtual 47, 3) := by decide +kernel
theorem dX5_init_94 : decode cX5_init 94 = .ok (.return_, 1) := by decide +kernel
theorem dX5_wipe_0 : decode cX5_wipe 0 = .ok (.aload_n 0, 1) := by decide +kernel
theorem dX5_wipe_1 : decode cX5_wipe 1 = .ok (.getfield 9, 3) := by decide +kernel
theorem dX5_wipe_4 : decode cX5_wipe 4 = .ok (.bipush (-9), 2) := by decide +kernel
theorem dX5_wipe_6 : decode cX5_wipe 6 = .ok (.invokestatic 50, 3) := by decide +kernel
theorem dX5_wipe_9 : decode cX5_wipe 9 = .ok (.aload_n 0, 1) := by decide +kernel
theorem dX5_wipe_10 : decode cX5_wipe 10 = .ok (.getfield 15, 3) := by decide +kernel
theorem dX5_wipe_13 : decode cX5_wipe 13 = .ok (.bipush (-9), 2) := by decide +kernel
theorem dX5_wipe_15 : decode cX5_wipe 15 = .ok (.invokestatic 50, 3) := by decide +kernel
theorem dX5_wipe_18 : decode cX5_wipe 18 = .ok (.aload_n 0, 1) := by decide +kernel
theorem dX5_wipe_19 : decode cX5_wipe 19 = .ok (.getfield 18, 3) := by decide +kernel
theorem dX5_wipe_22 : decode cX5_wipe 22 = .ok (.bipush (-9), 2) := by decide +kernel
theorem dX5_wipe_24 : decode cX5_wipe 24 = .ok (.invokestatic 50, 3) := by decide +kernel
theorem dX5_wipe_27 : decode cX5_wipe 27 = .ok (.aload_n 0, 1) := by decide +kernel
theorem dX5_wipe_28 : decode cX5_wipe 28 = .ok (.getfield 21, 3) := by decide +kernel
theorem dX5_wipe_31 : decode cX5_wipe 31 = .ok (.iconst 0, 1) := by decide +kernel
theorem dX5_wipe_32 : decode cX5_wipe 32 = .ok (.invokestatic 50, 3) := by decide +kernel
theorem dX5_wipe_35 : decode cX5_wipe 35 = .ok (.aload_n 0, 1) := by decide +kernel
theorem dX5_wipe_36 : decode cX5_wipe 36 = .ok (.getfield 24, 3) := by decide +kernel
theorem dX5_wipe_39 : decode cX5_wipe 39 = .ok (.bipush (-9), 2) := by decide +kernel
theorem dX5_wipe_41 : decode cX5_wipe 41 = .ok (.invokestatic 50, 3) := by decide +kernel
theorem dX5_wipe_44 : decode cX5_wipe 44 = .ok (.aload_n 0, 1) := by decide +kernel
theorem dX5_wipe_45 : decode cX5_wipe 45 = .ok (.getfield 27, 3) := by decide +kernel
theorem dX5_wipe_48 : decode cX5_wipe 48 = .ok (.bipush (-9), 2) := by decide +kernel
theorem dX5_wipe_50 : decode cX5_wipe 50 = .ok (.invokestatic 50, 3) := by decide +kernel
theorem dX5_wipe_53 : decode cX5_wipe 53 = .ok (.return_, 1) := by decide +kernel
theorem dX5_redrawFor_0 : decode cX5_redrawFor 0 = .ok (.iload_n 1, 1) := by decide +kernel
theorem dX5_redrawFor_1 : decode cX5_redrawFor 1 = .ok (.iconst 5, 1) := by decide +kernel
theorem dX5_redrawFor_2 : decode cX5_redrawFor 2 = .ok (.if_icmp .eq 4, 3) := by decide +kernel
theorem dX5_redrawFor_5 : decode cX5_redrawFor 5 = .ok (.return_, 1) := by decide +kernel
theorem dX5_redrawFor_6 : decode cX5_redrawFor 6 = .ok (.aload_n 0, 1) := by decide +kernel
theorem dX5_redrawFor_7 : decode cX5_redrawFor 7 = .ok (.invokevirtual 47, 3) := by decide +kernel
theorem dX5_redrawFor_10 : decode cX5_redrawFor 10 = .ok (.aload_n 0, 1) := by decide +kernel
theorem dX5_redrawFor_11 : decode cX5_redrawFor 11 = .ok (.invokevirtual 56, 3) := by decide +kernel
theorem dX5_redrawFor_14 : decode cX5_redrawFor 14 = .ok (.aload_n 0, 1) := by decide +kernel
theorem dX5_redrawFor_15 : decode cX5_redrawFor 15 = .ok (.invokevirtual 59, 3) := by decide +kernel
theorem dX5_redrawFor_18 : decode cX5_redrawFor 18 = .ok (.aload_n 0, 1) := by decide +kernel
theorem dX5_redrawFor_19 : decode cX5_redrawFor 19 = .ok (.invokevirtual 62, 3) := by decide +kernel
theorem dX5_redrawFor_22 : decode cX5_redrawFor 22 = .ok (.return_, 1) := by decide +kernel
theorem dX5_isDrawn_0 : decode cX5_isDrawn 0 = .ok (.aload_n 0, 1) := by decide +kernel
theorem dX5_isDrawn_1 : decode cX5_isDrawn 1 = .ok (.getfield 43, 3) := by decide +kernel
theorem dX5_isDrawn_4 : decode cX5_isDrawn 4 = .ok (.getfield 65, 3) := by decide +kernel
theorem dX5_isDrawn_7 : decode cX5_isDrawn 7 = .ok (.iload_n 1, 1) := by decide +kernel
theorem dX5_isDrawn_8 : decode cX5_isDrawn 8 = .ok (.baload, 1) := by decide +kernel
theorem dX5_isDrawn_9 : decode cX5_isDrawn 9 = .ok (.ifCond .eq 20, 3) := by decide +kernel
theorem dX5_isDrawn_12 : decode cX5_isDrawn 12 = .ok (.aload_n 0, 1) := by decide +kernel
theorem dX5_isDrawn_13 : decode cX5_isDrawn 13 = .ok (.getfield 43, 3) := by decide +kernel
theorem dX5_isDrawn_16 : decode cX5_isDrawn 16 = .ok (.getfield 71, 3) := by decide +kernel
theorem dX5_isDrawn_19 : decode cX5_isDrawn 19 = .ok (.iload_n 1, 1) := by decide +kernel
theorem dX5_isDrawn_20 : decode cX5_isDrawn 20 = .ok (.iaload, 1) := by decide +kernel
theorem dX5_isDrawn_21 : decode cX5_isDrawn 21 = .ok (.iconst 5, 1) := by decide +kernel
theorem dX5_isDrawn_22 : decode cX5_isDrawn 22 = .ok (.if_icmp .ne 7, 3) := by decide +kernel
theorem dX5_isDrawn_25 : decode cX5_isDrawn 25 = .ok (.iconst 1, 1) := by decide +kernel
theorem dX5_isDrawn_26 : decode cX5_isDrawn 26 = .ok (.goto 4, 3) := by decide +kernel
theorem dX5_isDrawn_29 : decode cX5_isDrawn 29 = .ok (.iconst 0, 1) := by decide +kernel
theorem dX5_isDrawn_30 : decode cX5_isDrawn 30 = .ok (.ireturn, 1) := by decide +kernel
theorem dX5_drawSaid_0 : decode cX5_drawSaid 0 = .ok (.iconst 0, 1) := by decide +kernel
theorem dX5_drawSaid_1 : decode cX5_drawSaid 1 = .ok (.istore_n 1, 1) := by decide +kernel
theorem dX5_drawSaid_2 : decode cX5_drawSaid 2 = .ok (.iload_n 1, 1) := by decide +kernel
theorem dX5_drawSaid_3 : decode cX5_drawSaid 3 = .ok (.aload_n 0, 1) := by decide +kernel
theorem dX5_drawSaid_4 : decode cX5_drawSaid 4 = .ok (.getfield 43, 3) := by decide +kernel
theorem dX5_drawSaid_7 : decode cX5_drawSaid 7 = .ok (.getfield 74, 3) := by decide +kernel
theorem dX5_drawSaid_10 : decode cX5_drawSaid 10 = .ok (.if_icmp .ge 70, 3) := by decide +kernel
theorem dX5_drawSaid_13 : decode cX5_drawSaid 13 = .ok (.aload_n 0, 1) := by decide +kernel
theorem dX5_drawSaid_14 : decode cX5_drawSaid 14 = .ok (.iload_n 1, 1) := by decide +kernel
theorem dX5_drawSaid_15 : decode cX5_drawSaid 15 = .ok (.invokevirtual 78, 3) := by decide +kernel
theorem dX5_drawSaid_18 : decode cX5_drawSaid 18 = .ok (.ifCond .eq 56, 3) := by decide +kernel
theorem dX5_drawSaid_21 : decode cX5_drawSaid 21 = .ok (.aload_n 0, 1) := by decide +kernel
theorem dX5_drawSaid_22 : decode cX5_drawSaid 22 = .ok (.getfield 43, 3) := by decide +kernel
theorem dX5_drawSaid_25 : decode cX5_drawSaid 25 = .ok (.getfield 82, 3) := by decide +kernel
theorem dX5_drawSaid_28 : decode cX5_drawSaid 28 = .ok (.iload_n 1, 1) := by decide +kernel
theorem dX5_drawSaid_29 : decode cX5_drawSaid 29 = .ok (.iaload, 1) := by decide +kernel
theorem dX5_drawSaid_30 : decode cX5_drawSaid 30 = .ok (.bipush 10, 2) := by decide +kernel
theorem dX5_drawSaid_32 : decode cX5_drawSaid 32 = .ok (.imul, 1) := by decide +kernel
theorem dX5_drawSaid_33 : decode cX5_drawSaid 33 = .ok (.aload_n 0, 1) := by decide +kernel
theorem dX5_drawSaid_34 : decode cX5_drawSaid 34 = .ok (.getfield 43, 3) := by decide +kernel
theorem dX5_drawSaid_37 : decode cX5_drawSaid 37 = .ok (.getfield 85, 3) := by decide +kernel
theorem dX5_drawSaid_40 : decode cX5_drawSaid 40 = .ok (.iload_n 1, 1) := by decide +kernel
theorem dX5_drawSaid_41 : decode cX5_drawSaid 41 = .ok (.iaload, 1) := by decide +kernel
theorem dX5_drawSaid_42 : decode cX5_drawSaid 42 = .ok (.iadd, 1) := by decide +kernel
theorem dX5_drawSaid_43 : decode cX5_drawSaid 43 = .ok (.istore_n 2, 1) := by decide +kernel
theorem dX5_drawSaid_44 : decode cX5_drawSaid 44 = .ok (.aload_n 0, 1) := by decide +kernel
theorem dX5_drawSaid_45 : decode cX5_drawSaid 45 = .ok (.getfield 18, 3) := by decide +kernel
theorem dX5_drawSaid_48 : decode cX5_drawSaid 48 = .ok (.iload_n 2, 1) := by decide +kernel
theorem dX5_drawSaid_49 : decode cX5_drawSaid 49 = .ok (.iload_n 1, 1) := by decide +kernel
theorem dX5_drawSaid_50 : decode cX5_drawSaid 50 = .ok (.iastore, 1) := by decide +kernel
theorem dX5_drawSaid_51 : decode cX5_drawSaid 51 = .ok (.aload_n 0, 1) := by decide +kernel
theorem dX5_drawSaid_52 : decode cX5_drawSaid 52 = .ok (.iload_n 2, 1) := by decide +kernel
theorem dX5_drawSaid_53 : decode cX5_drawSaid 53 = .ok (.aload_n 0, 1) := by decide +kernel
theorem dX5_drawSaid_54 : decode cX5_drawSaid 54 = .ok (.getfield 43, 3) := by decide +kernel
theorem dX5_drawSaid_57 : decode cX5_drawSaid 57 = .ok (.getfield 82, 3) := by decide +kernel
theorem dX5_drawSaid_60 : decode cX5_drawSaid 60 = .ok (.iload_n 1, 1) := by decide +kernel
theorem dX5_drawSaid_61 : decode cX5_drawSaid 61 = .ok (.iaload, 1) := by decide +kernel
theorem dX5_drawSaid_62 : decode cX5_drawSaid 62 = .ok (.aload_n 0, 1) := by decide +kernel
theorem dX5_drawSaid_63 : decode cX5_drawSaid 63 = .ok (.getfield 43, 3) := by decide +kernel
theorem dX5_drawSaid_66 : decode cX5_drawSaid 66 = .ok (.getfield 88, 3) := by decide +kernel
theorem dX5_drawSaid_69 : decode cX5_drawSaid 69 = .ok (.iload_n 1, 1) := by decide +kernel
theorem dX5_drawSaid_70 : decode cX5_drawSaid 70 = .ok (.iaload, 1) := by decide +kernel
theorem dX5_drawSaid_71 : decode cX5_drawSaid 71 = .ok (.invokevirtual 91, 3) := by decide +kernel
theorem dX5_drawSaid_74 : decode cX5_drawSaid 74 = .ok (.iinc 1 1, 3) := by decide +kernel
theorem dX5_drawSaid_77 : decode cX5_drawSaid 77 = .ok (.goto (-75), 3) := by decide +kernel
theorem dX5_drawSaid_80 : decode cX5_drawSaid 80 = .ok (.return_, 1) := by decide +kernel
theorem dX5_drawTarget_0 : decode cX5_drawTarget 0 = .ok (.aload_n 0, 1) := by decide +kernel
theorem dX5_drawTarget_1 : decode cX5_drawTarget 1 = .ok (.getfield 39, 3) := by decide +kernel
theorem dX5_drawTarget_4 : decode cX5_drawTarget 4 = .ok (.iload_n 3, 1) := by decide +kernel
theorem dX5_drawTarget_5 : decode cX5_drawTarget 5 = .ok (.invokevirtual 95, 3) := by decide +kernel
theorem dX5_drawTarget_8 : decode cX5_drawTarget 8 = .ok (.ifCond .ne 11, 3) := by decide +kernel
theorem dX5_drawTarget_11 : decode cX5_drawTarget 11 = .ok (.aload_n 0, 1) := by decide +kernel
theorem dX5_drawTarget_12 : decode cX5_drawTarget 12 = .ok (.getfield 9, 3) := by decide +kernel
theorem dX5_drawTarget_15 : decode cX5_drawTarget 15 = .ok (.iload_n 1, 1) := by decide +kernel
theorem dX5_drawTarget_16 : decode cX5_drawTarget 16 = .ok (.iload_n 3, 1) := by decide +kernel
theorem dX5_drawTarget_17 : decode cX5_drawTarget 17 = .ok (.iastore, 1) := by decide +kernel
theorem dX5_drawTarget_18 : decode cX5_drawTarget 18 = .ok (.return_, 1) := by decide +kernel
theorem dX5_drawTarget_19 : decode cX5_drawTarget 19 = .ok (.aload_n 0, 1) := by decide +kernel
theorem dX5_drawTarget_20 : decode cX5_drawTarget 20 = .ok (.getfield 15, 3) := by decide +kernel
theorem dX5_drawTarget_23 : decode cX5_drawTarget 23 = .ok (.iload_n 1, 1) := by decide +kernel
theorem dX5_drawTarget_24 : decode cX5_drawTarget 24 = .ok (.iload_n 3, 1) := by decide +kernel
theorem dX5_drawTarget_25 : decode cX5_drawTarget 25 = .ok (.iastore, 1) := by decide +kernel
theorem dX5_drawTarget_26 : decode cX5_drawTarget 26 = .ok (.aload_n 0, 1) := by decide +kernel
theorem dX5_drawTarget_27 : decode cX5_drawTarget 27 = .ok (.getfield 24, 3) := by decide +kernel
theorem dX5_drawTarget_30 : decode cX5_drawTarget 30 = .ok (.iload_n 3, 1) := by decide +kernel
theorem dX5_drawTarget_31 : decode cX5_drawTarget 31 = .ok (.iaload, 1) := by decide +kernel
theorem dX5_drawTarget_32 : decode cX5_drawTarget 32 = .ok (.bipush (-9), 2) := by decide +kernel
theorem dX5_drawTarget_34 : decode cX5_drawTarget 34 = .ok (.if_icmp .ne 13, 3) := by decide +kernel
theorem dX5_drawTarget_37 : decode cX5_drawTarget 37 = .ok (.aload_n 0, 1) := by decide +kernel
theorem dX5_drawTarget_38 : decode cX5_drawTarget 38 = .ok (.getfield 24, 3) := by decide +kernel
theorem dX5_drawTarget_41 : decode cX5_drawTarget 41 = .ok (.iload_n 3, 1) := by decide +kernel
theorem dX5_drawTarget_42 : decode cX5_drawTarget 42 = .ok (.iload_n 2, 1) := by decide +kernel
theorem dX5_drawTarget_43 : decode cX5_drawTarget 43 = .ok (.iastore, 1) := by decide +kernel
theorem dX5_drawTarget_44 : decode cX5_drawTarget 44 = .ok (.goto 10, 3) := by decide +kernel
theorem dX5_drawTarget_47 : decode cX5_drawTarget 47 = .ok (.aload_n 0, 1) := by decide +kernel
theorem dX5_drawTarget_48 : decode cX5_drawTarget 48 = .ok (.getfield 27, 3) := by decide +kernel
theorem dX5_drawTarget_51 : decode cX5_drawTarget 51 = .ok (.iload_n 3, 1) := by decide +kernel
theorem dX5_drawTarget_52 : decode cX5_drawTarget 52 = .ok (.iload_n 2, 1) := by decide +kernel
theorem dX5_drawTarget_53 : decode cX5_drawTarget 53 = .ok (.iastore, 1) := by decide +kernel
theorem dX5_drawTarget_54 : decode cX5_drawTarget 54 = .ok (.return_, 1) := by decide +kernel
theorem dX5_drawImplied_0 : decode cX5_drawImplied 0 = .ok (.iconst 0, 1) := by decide +kernel
theorem dX5_drawImplied_1 : decode cX5_drawImplied 1 = .ok (.istore_n 1, 1) := by decide +kernel
theorem dX5_drawImplied_2 : decode cX5_drawImplied 2 = .ok (.iload_n 1, 1) := by decide +kernel
theorem dX5_drawImplied_3 : decode cX5_drawImplied 3 = .ok (.aload_n 0, 1) := by decide +kernel
theorem dX5_drawImplied_4 : decode cX5_drawImplied 4 = .ok (.getfield 43, 3) := by decide +kernel
theorem dX5_drawImplied_7 : decode cX5_drawImplied 7 = .ok (.getfield 74, 3) := by decide +kernel
theorem dX5_drawImplied_10 : decode cX5_drawImplied 10 = .ok (.if_icmp .ge 101, 3) := by decide +kernel
theorem dX5_drawImplied_13 : decode cX5_drawImplied 13 = .ok (.aload_n 0, 1) := by decide +kernel
theorem dX5_drawImplied_14 : decode cX5_drawImplied 14 = .ok (.iload_n 1, 1) := by decide +kernel
theorem dX5_drawImplied_15 : decode cX5_drawImplied 15 = .ok (.invokevirtual 78, 3) := by decide +kernel
theorem dX5_drawImplied_18 : decode cX5_drawImplied 18 = .ok (.ifCond .eq 87, 3) := by decide +kernel
theorem dX5_drawImplied_21 : decode cX5_drawImplied 21 = .ok (.aload_n 0, 1) := by decide +kernel
theorem dX5_drawImplied_22 : decode cX5_drawImplied 22 = .ok (.getfield 39, 3) := by decide +kernel
theorem dX5_drawImplied_25 : decode cX5_drawImplied 25 = .ok (.aload_n 0, 1) := by decide +kernel
theorem dX5_drawImplied_26 : decode cX5_drawImplied 26 = .ok (.getfield 43, 3) := by decide +kernel
theorem dX5_drawImplied_29 : decode cX5_drawImplied 29 = .ok (.getfield 88, 3) := by decide +kernel
theorem dX5_drawImplied_32 : decode cX5_drawImplied 32 = .ok (.iload_n 1, 1) := by decide +kernel
theorem dX5_drawImplied_33 : decode cX5_drawImplied 33 = .ok (.iaload, 1) := by decide +kernel
theorem dX5_drawImplied_34 : decode cX5_drawImplied 34 = .ok (.invokevirtual 95, 3) := by decide +kernel
theorem dX5_drawImplied_37 : decode cX5_drawImplied 37 = .ok (.ifCond .ne 68, 3) := by decide +kernel
theorem dX5_drawImplied_40 : decode cX5_drawImplied 40 = .ok (.aload_n 0, 1) := by decide +kernel
theorem dX5_drawImplied_41 : decode cX5_drawImplied 41 = .ok (.getfield 43, 3) := by decide +kernel
theorem dX5_drawImplied_44 : decode cX5_drawImplied 44 = .ok (.getfield 88, 3) := by decide +kernel
theorem dX5_drawImplied_47 : decode cX5_drawImplied 47 = .ok (.iload_n 1, 1) := by decide +kernel
theorem dX5_drawImplied_48 : decode cX5_drawImplied 48 = .ok (.iaload, 1) := by decide +kernel
theorem dX5_drawImplied_49 : decode cX5_drawImplied 49 = .ok (.bipush 10, 2) := by decide +kernel
theorem dX5_drawImplied_51 : decode cX5_drawImplied 51 = .ok (.imul, 1) := by decide +kernel
theorem dX5_drawImplied_52 : decode cX5_drawImplied 52 = .ok (.aload_n 0, 1) := by decide +kernel
theorem dX5_drawImplied_53 : decode cX5_drawImplied 53 = .ok (.getfield 43, 3) := by decide +kernel
theorem dX5_drawImplied_56 : decode cX5_drawImplied 56 = .ok (.getfield 85, 3) := by decide +kernel
theorem dX5_drawImplied_59 : decode cX5_drawImplied 59 = .ok (.iload_n 1, 1) := by decide +kernel
theorem dX5_drawImplied_60 : decode cX5_drawImplied 60 = .ok (.iaload, 1) := by decide +kernel
theorem dX5_drawImplied_61 : decode cX5_drawImplied 61 = .ok (.iconst 1, 1) := by decide +kernel
theorem dX5_drawImplied_62 : decode cX5_drawImplied 62 = .ok (.ixor, 1) := by decide +kernel
theorem dX5_drawImplied_63 : decode cX5_drawImplied 63 = .ok (.iadd, 1) := by decide +kernel
theorem dX5_drawImplied_64 : decode cX5_drawImplied 64 = .ok (.istore_n 2, 1) := by decide +kernel
theorem dX5_drawImplied_65 : decode cX5_drawImplied 65 = .ok (.aload_n 0, 1) := by decide +kernel
theorem dX5_drawImplied_66 : decode cX5_drawImplied 66 = .ok (.getfield 18, 3) := by decide +kernel
theorem dX5_drawImplied_69 : decode cX5_drawImplied 69 = .ok (.iload_n 2, 1) := by decide +kernel
theorem dX5_drawImplied_70 : decode cX5_drawImplied 70 = .ok (.iaload, 1) := by decide +kernel
theorem dX5_drawImplied_71 : decode cX5_drawImplied 71 = .ok (.bipush (-9), 2) := by decide +kernel
theorem dX5_drawImplied_73 : decode cX5_drawImplied 73 = .ok (.if_icmp .ne 32, 3) := by decide +kernel
theorem dX5_drawImplied_76 : decode cX5_drawImplied 76 = .ok (.aload_n 0, 1) := by decide +kernel
theorem dX5_drawImplied_77 : decode cX5_drawImplied 77 = .ok (.getfield 18, 3) := by decide +kernel
theorem dX5_drawImplied_80 : decode cX5_drawImplied 80 = .ok (.iload_n 2, 1) := by decide +kernel
theorem dX5_drawImplied_81 : decode cX5_drawImplied 81 = .ok (.iload_n 1, 1) := by decide +kernel
theorem dX5_drawImplied_82 : decode cX5_drawImplied 82 = .ok (.iastore, 1) := by decide +kernel
theorem dX5_drawImplied_83 : decode cX5_drawImplied 83 = .ok (.aload_n 0, 1) := by decide +kernel
theorem dX5_drawImplied_84 : decode cX5_drawImplied 84 = .ok (.getfield 9, 3) := by decide +kernel
theorem dX5_drawImplied_87 : decode cX5_drawImplied 87 = .ok (.iload_n 2, 1) := by decide +kernel
theorem dX5_drawImplied_88 : decode cX5_drawImplied 88 = .ok (.aload_n 0, 1) := by decide +kernel
theorem dX5_drawImplied_89 : decode cX5_drawImplied 89 = .ok (.getfield 43, 3) := by decide +kernel
theorem dX5_drawImplied_92 : decode cX5_drawImplied 92 = .ok (.getfield 82, 3) := by decide +kernel
theorem dX5_drawImplied_95 : decode cX5_drawImplied 95 = .ok (.iload_n 1, 1) := by decide +kernel
theorem dX5_drawImplied_96 : decode cX5_drawImplied 96 = .ok (.iaload, 1) := by decide +kernel
theorem dX5_drawImplied_97 : decode cX5_drawImplied 97 = .ok (.iastore, 1) := by decide +kernel
theorem dX5_drawImplied_98 : decode cX5_drawImplied 98 = .ok (.aload_n 0, 1) := by decide +kernel
theorem dX5_drawImplied_99 : decode cX5_drawImplied 99 = .ok (.getfield 21, 3) := by decide +kernel
theorem dX5_drawImplied_102 : decode cX5_drawImplied 102 = .ok (.iload_n 2, 1) := by decide +kernel
theorem dX5_drawImplied_103 : decode cX5_drawImplied 103 = .ok (.iconst 1, 1) := by decide +kernel
theorem dX5_drawImplied_104 : decode cX5_drawImplied 104 = .ok (.iastore, 1) := by decide +kernel
theorem dX5_drawImplied_105 : decode cX5_drawImplied 105 = .ok (.iinc 1 1, 3) := by decide +kernel
theorem dX5_drawImplied_108 : decode cX5_drawImplied 108 = .ok (.goto (-106), 3) := by decide +kernel
theorem dX5_drawImplied_111 : decode cX5_drawImplied 111 = .ok (.return_, 1) := by decide +kernel
theorem dX5_drawThroughDoors_0 : decode cX5_drawThroughDoors 0 = .ok (.iconst 0, 1) := by decide +kernel
theorem dX5_drawThroughDoors_1 : decode cX5_drawThroughDoors 1 = .ok (.istore_n 1, 1) := by decide +kernel
theorem dX5_drawThroughDoors_2 : decode cX5_drawThroughDoors 2 = .ok (.iload_n 1, 1) := by decide +kernel
theorem dX5_drawThroughDoors_3 : decode cX5_drawThroughDoors 3 = .ok (.aload_n 0, 1) := by decide +kernel
theorem dX5_drawThroughDoors_4 : decode cX5_drawThroughDoors 4 = .ok (.getfield 15, 3) := by decide +kernel
theorem dX5_drawThroughDoors_7 : decode cX5_drawThroughDoors 7 = .ok (.arraylength, 1) := by decide +kernel
theorem dX5_drawThroughDoors_8 : decode cX5_drawThroughDoors 8 = .ok (.if_icmp .ge 66, 3) := by decide +kernel
theorem dX5_drawThroughDoors_11 : decode cX5_drawThroughDoors 11 = .ok (.aload_n 0, 1) := by decide +kernel
theorem dX5_drawThroughDoors_12 : decode cX5_drawThroughDoors 12 = .ok (.getfield 15, 3) := by decide +kernel
theorem dX5_drawThroughDoors_15 : decode cX5_drawThroughDoors 15 = .ok (.iload_n 1, 1) := by decide +kernel
theorem dX5_drawThroughDoors_16 : decode cX5_drawThroughDoors 16 = .ok (.iaload, 1) := by decide +kernel
theorem dX5_drawThroughDoors_17 : decode cX5_drawThroughDoors 17 = .ok (.istore_n 2, 1) := by decide +kernel
theorem dX5_drawThroughDoors_18 : decode cX5_drawThroughDoors 18 = .ok (.iload_n 2, 1) := by decide +kernel
theorem dX5_drawThroughDoors_19 : decode cX5_drawThroughDoors 19 = .ok (.bipush (-9), 2) := by decide +kernel
theorem dX5_drawThroughDoors_21 : decode cX5_drawThroughDoors 21 = .ok (.if_icmp .eq 47, 3) := by decide +kernel
theorem dX5_drawThroughDoors_24 : decode cX5_drawThroughDoors 24 = .ok (.aload_n 0, 1) := by decide +kernel
theorem dX5_drawThroughDoors_25 : decode cX5_drawThroughDoors 25 = .ok (.getfield 24, 3) := by decide +kernel
theorem dX5_drawThroughDoors_28 : decode cX5_drawThroughDoors 28 = .ok (.iload_n 2, 1) := by decide +kernel
theorem dX5_drawThroughDoors_29 : decode cX5_drawThroughDoors 29 = .ok (.iaload, 1) := by decide +kernel
theorem dX5_drawThroughDoors_30 : decode cX5_drawThroughDoors 30 = .ok (.iload_n 1, 1) := by decide +kernel
theorem dX5_drawThroughDoors_31 : decode cX5_drawThroughDoors 31 = .ok (.bipush 10, 2) := by decide +kernel
theorem dX5_drawThroughDoors_33 : decode cX5_drawThroughDoors 33 = .ok (.idiv, 1) := by decide +kernel
theorem dX5_drawThroughDoors_34 : decode cX5_drawThroughDoors 34 = .ok (.if_icmp .ne 7, 3) := by decide +kernel
theorem dX5_drawThroughDoors_37 : decode cX5_drawThroughDoors 37 = .ok (.iconst 1, 1) := by decide +kernel
theorem dX5_drawThroughDoors_38 : decode cX5_drawThroughDoors 38 = .ok (.goto 4, 3) := by decide +kernel
theorem dX5_drawThroughDoors_41 : decode cX5_drawThroughDoors 41 = .ok (.iconst 0, 1) := by decide +kernel
theorem dX5_drawThroughDoors_42 : decode cX5_drawThroughDoors 42 = .ok (.istore_n 3, 1) := by decide +kernel
theorem dX5_drawThroughDoors_43 : decode cX5_drawThroughDoors 43 = .ok (.aload_n 0, 1) := by decide +kernel
theorem dX5_drawThroughDoors_44 : decode cX5_drawThroughDoors 44 = .ok (.getfield 9, 3) := by decide +kernel
theorem dX5_drawThroughDoors_47 : decode cX5_drawThroughDoors 47 = .ok (.iload_n 1, 1) := by decide +kernel
theorem dX5_drawThroughDoors_48 : decode cX5_drawThroughDoors 48 = .ok (.iload_n 3, 1) := by decide +kernel
theorem dX5_drawThroughDoors_49 : decode cX5_drawThroughDoors 49 = .ok (.ifCond .eq 12, 3) := by decide +kernel
theorem dX5_drawThroughDoors_52 : decode cX5_drawThroughDoors 52 = .ok (.aload_n 0, 1) := by decide +kernel
theorem dX5_drawThroughDoors_53 : decode cX5_drawThroughDoors 53 = .ok (.getfield 27, 3) := by decide +kernel
theorem dX5_drawThroughDoors_56 : decode cX5_drawThroughDoors 56 = .ok (.iload_n 2, 1) := by decide +kernel
theorem dX5_drawThroughDoors_57 : decode cX5_drawThroughDoors 57 = .ok (.iaload, 1) := by decide +kernel
theorem dX5_drawThroughDoors_58 : decode cX5_drawThroughDoors 58 = .ok (.goto 9, 3) := by decide +kernel
theorem dX5_drawThroughDoors_61 : decode cX5_drawThroughDoors 61 = .ok (.aload_n 0, 1) := by decide +kernel
theorem dX5_drawThroughDoors_62 : decode cX5_drawThroughDoors 62 = .ok (.getfield 24, 3) := by decide +kernel
theorem dX5_drawThroughDoors_65 : decode cX5_drawThroughDoors 65 = .ok (.iload_n 2, 1) := by decide +kernel
theorem dX5_drawThroughDoors_66 : decode cX5_drawThroughDoors 66 = .ok (.iaload, 1) := by decide +kernel
theorem dX5_drawThroughDoors_67 : decode cX5_drawThroughDoors 67 = .ok (.iastore, 1) := by decide +kernel
theorem dX5_drawThroughDoors_68 : decode cX5_drawThroughDoors 68 = .ok (.iinc 1 1, 3) := by decide +kernel
theorem dX5_drawThroughDoors_71 : decode cX5_drawThroughDoors 71 = .ok (.goto (-69), 3) := by decide +kernel
theorem dX5_drawThroughDoors_74 : decode cX5_drawThroughDoors 74 = .ok (.return_, 1) := by decide +kernel
theorem dX5_tellOf_0 : decode cX5_tellOf 0 = .ok (.aload_n 0, 1) := by decide +kernel
theorem dX5_tellOf_1 : decode cX5_tellOf 1 = .ok (.getfield 18, 3) := by decide +kernel
theorem dX5_tellOf_4 : decode cX5_tellOf 4 = .ok (.iload_n 1, 1) := by decide +kernel
theorem dX5_tellOf_5 : decode cX5_tellOf 5 = .ok (.iaload, 1) := by decide +kernel
theorem dX5_tellOf_6 : decode cX5_tellOf 6 = .ok (.bipush (-9), 2) := by decide +kernel
theorem dX5_tellOf_8 : decode cX5_tellOf 8 = .ok (.if_icmp .ne 6, 3) := by decide +kernel
theorem dX5_tellOf_11 : decode cX5_tellOf 11 = .ok (.bipush (-9), 2) := by decide +kernel
theorem dX5_tellOf_13 : decode cX5_tellOf 13 = .ok (.ireturn, 1) := by decide +kernel
theorem dX5_tellOf_14 : decode cX5_tellOf 14 = .ok (.iload_n 2, 1) := by decide +kernel
theorem dX5_tellOf_15 : decode cX5_tellOf 15 = .ok (.tableswitch 52 0 2 #[25, 34, 43], 25) := by decide +kernel
theorem dX5_tellOf_40 : decode cX5_tellOf 40 = .ok (.aload_n 0, 1) := by decide +kernel
theorem dX5_tellOf_41 : decode cX5_tellOf 41 = .ok (.getfield 9, 3) := by decide +kernel
theorem dX5_tellOf_44 : decode cX5_tellOf 44 = .ok (.iload_n 1, 1) := by decide +kernel
theorem dX5_tellOf_45 : decode cX5_tellOf 45 = .ok (.iaload, 1) := by decide +kernel
theorem dX5_tellOf_46 : decode cX5_tellOf 46 = .ok (.goto 27, 3) := by decide +kernel
theorem dX5_tellOf_49 : decode cX5_tellOf 49 = .ok (.aload_n 0, 1) := by decide +kernel
theorem dX5_tellOf_50 : decode cX5_tellOf 50 = .ok (.getfield 15, 3) := by decide +kernel
theorem dX5_tellOf_53 : decode cX5_tellOf 53 = .ok (.iload_n 1, 1) := by decide +kernel
theorem dX5_tellOf_54 : decode cX5_tellOf 54 = .ok (.iaload, 1) := by decide +kernel
theorem dX5_tellOf_55 : decode cX5_tellOf 55 = .ok (.goto 18, 3) := by decide +kernel
theorem dX5_tellOf_58 : decode cX5_tellOf 58 = .ok (.aload_n 0, 1) := by decide +kernel
theorem dX5_tellOf_59 : decode cX5_tellOf 59 = .ok (.getfield 18, 3) := by decide +kernel
theorem dX5_tellOf_62 : decode cX5_tellOf 62 = .ok (.iload_n 1, 1) := by decide +kernel
theorem dX5_tellOf_63 : decode cX5_tellOf 63 = .ok (.iaload, 1) := by decide +kernel
theorem dX5_tellOf_64 : decode cX5_tellOf 64 = .ok (.goto 9, 3) := by decide +kernel
theorem dX5_tellOf_67 : decode cX5_tellOf 67 = .ok (.aload_n 0, 1) := by decide +kernel
theorem dX5_tellOf_68 : decode cX5_tellOf 68 = .ok (.getfield 21, 3) := by decide +kernel
theorem dX5_tellOf_71 : decode cX5_tellOf 71 = .ok (.iload_n 1, 1) := by decide +kernel
theorem dX5_tellOf_72 : decode cX5_tellOf 72 = .ok (.iaload, 1) := by decide +kernel
theorem dX5_tellOf_73 : decode cX5_tellOf 73 = .ok (.ireturn, 1) := by decide +kernel
theorem dX5_isSide_0 : decode cX5_isSide 0 = .ok (.iload_n 1, 1) := by decide +kernel
theorem dX5_isSide_1 : decode cX5_isSide 1 = .ok (.bipush (-9), 2) := by decide +kernel
theorem dX5_isSide_3 : decode cX5_isSide 3 = .ok (.if_icmp .eq 27, 3) := by decide +kernel
theorem dX5_isSide_6 : decode cX5_isSide 6 = .ok (.aload_n 0, 1) := by decide +kernel
theorem dX5_isSide_7 : decode cX5_isSide 7 = .ok (.getfield 24, 3) := by decide +kernel
theorem dX5_isSide_10 : decode cX5_isSide 10 = .ok (.iload_n 2, 1) := by decide +kernel
theorem dX5_isSide_11 : decode cX5_isSide 11 = .ok (.iaload, 1) := by decide +kernel
theorem dX5_isSide_12 : decode cX5_isSide 12 = .ok (.iload_n 1, 1) := by decide +kernel
theorem dX5_isSide_13 : decode cX5_isSide 13 = .ok (.if_icmp .eq 13, 3) := by decide +kernel
theorem dX5_isSide_16 : decode cX5_isSide 16 = .ok (.aload_n 0, 1) := by decide +kernel
theorem dX5_isSide_17 : decode cX5_isSide 17 = .ok (.getfield 27, 3) := by decide +kernel
theorem dX5_isSide_20 : decode cX5_isSide 20 = .ok (.iload_n 2, 1) := by decide +kernel
theorem dX5_isSide_21 : decode cX5_isSide 21 = .ok (.iaload, 1) := by decide +kernel
theorem dX5_isSide_22 : decode cX5_isSide 22 = .ok (.iload_n 1, 1) := by decide +kernel
theorem dX5_isSide_23 : decode cX5_isSide 23 = .ok (.if_icmp .ne 7, 3) := by decide +kernel
theorem dX5_isSide_26 : decode cX5_isSide 26 = .ok (.iconst 1, 1) := by decide +kernel
theorem dX5_isSide_27 : decode cX5_isSide 27 = .ok (.goto 4, 3) := by decide +kernel
theorem dX5_isSide_30 : decode cX5_isSide 30 = .ok (.iconst 0, 1) := by decide +kernel
theorem dX5_isSide_31 : decode cX5_isSide 31 = .ok (.ireturn, 1) := by decide +kernel
theorem dX5_walkFrom_0 : decode cX5_walkFrom 0 = .ok (.aload_n 0, 1) := by decide +kernel
theorem dX5_walkFrom_1 : decode cX5_walkFrom 1 = .ok (.getfield 30, 3) := by decide +kernel
theorem dX5_walkFrom_4 : decode cX5_walkFrom 4 = .ok (.bipush (-9), 2) := by decide +kernel
theorem dX5_walkFrom_6 : decode cX5_walkFrom 6 = .ok (.invokestatic 50, 3) := by decide +kernel
theorem dX5_walkFrom_9 : decode cX5_walkFrom 9 = .ok (.aload_n 0, 1) := by decide +kernel
theorem dX5_walkFrom_10 : decode cX5_walkFrom 10 = .ok (.getfield 33, 3) := by decide +kernel
theorem dX5_walkFrom_13 : decode cX5_walkFrom 13 = .ok (.bipush (-9), 2) := by decide +kernel
theorem dX5_walkFrom_15 : decode cX5_walkFrom 15 = .ok (.invokestatic 50, 3) := by decide +kernel
theorem dX5_walkFrom_18 : decode cX5_walkFrom 18 = .ok (.aload_n 0, 1) := by decide +kernel
theorem dX5_walkFrom_19 : decode cX5_walkFrom 19 = .ok (.getfield 30, 3) := by decide +kernel
theorem dX5_walkFrom_22 : decode cX5_walkFrom 22 = .ok (.iload_n 1, 1) := by decide +kernel
theorem dX5_walkFrom_23 : decode cX5_walkFrom 23 = .ok (.iconst 0, 1) := by decide +kernel
theorem dX5_walkFrom_24 : decode cX5_walkFrom 24 = .ok (.iastore, 1) := by decide +kernel
theorem dX5_walkFrom_25 : decode cX5_walkFrom 25 = .ok (.aload_n 0, 1) := by decide +kernel
theorem dX5_walkFrom_26 : decode cX5_walkFrom 26 = .ok (.getfield 36, 3) := by decide +kernel
theorem dX5_walkFrom_29 : decode cX5_walkFrom 29 = .ok (.iconst 0, 1) := by decide +kernel
theorem dX5_walkFrom_30 : decode cX5_walkFrom 30 = .ok (.iload_n 1, 1) := by decide +kernel
theorem dX5_walkFrom_31 : decode cX5_walkFrom 31 = .ok (.iastore, 1) := by decide +kernel
theorem dX5_walkFrom_32 : decode cX5_walkFrom 32 = .ok (.iconst 1, 1) := by decide +kernel
theorem dX5_walkFrom_33 : decode cX5_walkFrom 33 = .ok (.istore_n 3, 1) := by decide +kernel
theorem dX5_walkFrom_34 : decode cX5_walkFrom 34 = .ok (.iconst 0, 1) := by decide +kernel
theorem dX5_walkFrom_35 : decode cX5_walkFrom 35 = .ok (.istore 4, 2) := by decide +kernel
theorem dX5_walkFrom_37 : decode cX5_walkFrom 37 = .ok (.iload 4, 2) := by decide +kernel
theorem dX5_walkFrom_39 : decode cX5_walkFrom 39 = .ok (.iload_n 3, 1) := by decide +kernel
theorem dX5_walkFrom_40 : decode cX5_walkFrom 40 = .ok (.if_icmp .ge 143, 3) := by decide +kernel
theorem dX5_walkFrom_43 : decode cX5_walkFrom 43 = .ok (.iload 4, 2) := by decide +kernel
theorem dX5_walkFrom_45 : decode cX5_walkFrom 45 = .ok (.bipush 30, 2) := by decide +kernel
theorem dX5_walkFrom_47 : decode cX5_walkFrom 47 = .ok (.if_icmp .ge 136, 3) := by decide +kernel
theorem dX5_walkFrom_50 : decode cX5_walkFrom 50 = .ok (.aload_n 0, 1) := by decide +kernel
theorem dX5_walkFrom_51 : decode cX5_walkFrom 51 = .ok (.getfield 36, 3) := by decide +kernel
theorem dX5_walkFrom_54 : decode cX5_walkFrom 54 = .ok (.iload 4, 2) := by decide +kernel
theorem dX5_walkFrom_56 : decode cX5_walkFrom 56 = .ok (.iaload, 1) := by decide +kernel
theorem dX5_walkFrom_57 : decode cX5_walkFrom 57 = .ok (.istore 5, 2) := by decide +kernel
theorem dX5_walkFrom_59 : decode cX5_walkFrom 59 = .ok (.iconst 0, 1) := by decide +kernel
theorem dX5_walkFrom_60 : decode cX5_walkFrom 60 = .ok (.istore 6, 2) := by decide +kernel
theorem dX5_walkFrom_62 : decode cX5_walkFrom 62 = .ok (.iload 6, 2) := by decide +kernel
theorem dX5_walkFrom_64 : decode cX5_walkFrom 64 = .ok (.bipush 10, 2) := by decide +kernel
theorem dX5_walkFrom_66 : decode cX5_walkFrom 66 = .ok (.if_icmp .ge 111, 3) := by decide +kernel
theorem dX5_walkFrom_69 : decode cX5_walkFrom 69 = .ok (.aload_n 0, 1) := by decide +kernel
theorem dX5_walkFrom_70 : decode cX5_walkFrom 70 = .ok (.getfield 9, 3) := by decide +kernel
theorem dX5_walkFrom_73 : decode cX5_walkFrom 73 = .ok (.iload 5, 2) := by decide +kernel
theorem dX5_walkFrom_75 : decode cX5_walkFrom 75 = .ok (.bipush 10, 2) := by decide +kernel
theorem dX5_walkFrom_77 : decode cX5_walkFrom 77 = .ok (.imul, 1) := by decide +kernel
theorem dX5_walkFrom_78 : decode cX5_walkFrom 78 = .ok (.iload 6, 2) := by decide +kernel
theorem dX5_walkFrom_80 : decode cX5_walkFrom 80 = .ok (.iadd, 1) := by decide +kernel
theorem dX5_walkFrom_81 : decode cX5_walkFrom 81 = .ok (.iaload, 1) := by decide +kernel
theorem dX5_walkFrom_82 : decode cX5_walkFrom 82 = .ok (.istore 7, 2) := by decide +kernel
theorem dX5_walkFrom_84 : decode cX5_walkFrom 84 = .ok (.iload 7, 2) := by decide +kernel
theorem dX5_walkFrom_86 : decode cX5_walkFrom 86 = .ok (.bipush (-9), 2) := by decide +kernel
theorem dX5_walkFrom_88 : decode cX5_walkFrom 88 = .ok (.if_icmp .eq 83, 3) := by decide +kernel
theorem dX5_walkFrom_91 : decode cX5_walkFrom 91 = .ok (.aload_n 0, 1) := by decide +kernel
theorem dX5_walkFrom_92 : decode cX5_walkFrom 92 = .ok (.getfield 30, 3) := by decide +kernel
theorem dX5_walkFrom_95 : decode cX5_walkFrom 95 = .ok (.iload 7, 2) := by decide +kernel
theorem dX5_walkFrom_97 : decode cX5_walkFrom 97 = .ok (.iaload, 1) := by decide +kernel
theorem dX5_walkFrom_98 : decode cX5_walkFrom 98 = .ok (.bipush (-9), 2) := by decide +kernel
theorem dX5_walkFrom_100 : decode cX5_walkFrom 100 = .ok (.if_icmp .ne 71, 3) := by decide +kernel
theorem dX5_walkFrom_103 : decode cX5_walkFrom 103 = .ok (.aload_n 0, 1) := by decide +kernel
theorem dX5_walkFrom_104 : decode cX5_walkFrom 104 = .ok (.iload 5, 2) := by decide +kernel
theorem dX5_walkFrom_106 : decode cX5_walkFrom 106 = .ok (.bipush 10, 2) := by decide +kernel
theorem dX5_walkFrom_108 : decode cX5_walkFrom 108 = .ok (.imul, 1) := by decide +kernel
theorem dX5_walkFrom_109 : decode cX5_walkFrom 109 = .ok (.iload 6, 2) := by decide +kernel
theorem dX5_walkFrom_111 : decode cX5_walkFrom 111 = .ok (.iadd, 1) := by decide +kernel
theorem dX5_walkFrom_112 : decode cX5_walkFrom 112 = .ok (.iload_n 2, 1) := by decide +kernel
theorem dX5_walkFrom_113 : decode cX5_walkFrom 113 = .ok (.invokevirtual 101, 3) := by decide +kernel
theorem dX5_walkFrom_116 : decode cX5_walkFrom 116 = .ok (.ifCond .eq 55, 3) := by decide +kernel
theorem dX5_walkFrom_119 : decode cX5_walkFrom 119 = .ok (.aload_n 0, 1) := by decide +kernel
theorem dX5_walkFrom_120 : decode cX5_walkFrom 120 = .ok (.getfield 30, 3) := by decide +kernel
theorem dX5_walkFrom_123 : decode cX5_walkFrom 123 = .ok (.iload 7, 2) := by decide +kernel
theorem dX5_walkFrom_125 : decode cX5_walkFrom 125 = .ok (.aload_n 0, 1) := by decide +kernel
theorem dX5_walkFrom_126 : decode cX5_walkFrom 126 = .ok (.getfield 30, 3) := by decide +kernel
theorem dX5_walkFrom_129 : decode cX5_walkFrom 129 = .ok (.iload 5, 2) := by decide +kernel
theorem dX5_walkFrom_131 : decode cX5_walkFrom 131 = .ok (.iaload, 1) := by decide +kernel
theorem dX5_walkFrom_132 : decode cX5_walkFrom 132 = .ok (.iconst 1, 1) := by decide +kernel
theorem dX5_walkFrom_133 : decode cX5_walkFrom 133 = .ok (.iadd, 1) := by decide +kernel
theorem dX5_walkFrom_134 : decode cX5_walkFrom 134 = .ok (.iastore, 1) := by decide +kernel
theorem dX5_walkFrom_135 : decode cX5_walkFrom 135 = .ok (.aload_n 0, 1) := by decide +kernel
theorem dX5_walkFrom_136 : decode cX5_walkFrom 136 = .ok (.getfield 33, 3) := by decide +kernel
theorem dX5_walkFrom_139 : decode cX5_walkFrom 139 = .ok (.iload 7, 2) := by decide +kernel
theorem dX5_walkFrom_141 : decode cX5_walkFrom 141 = .ok (.iload 5, 2) := by decide +kernel
theorem dX5_walkFrom_143 : decode cX5_walkFrom 143 = .ok (.iload_n 1, 1) := by decide +kernel
theorem dX5_walkFrom_144 : decode cX5_walkFrom 144 = .ok (.if_icmp .ne 8, 3) := by decide +kernel
theorem dX5_walkFrom_147 : decode cX5_walkFrom 147 = .ok (.iload 6, 2) := by decide +kernel
theorem dX5_walkFrom_149 : decode cX5_walkFrom 149 = .ok (.goto 10, 3) := by decide +kernel
theorem dX5_walkFrom_152 : decode cX5_walkFrom 152 = .ok (.aload_n 0, 1) := by decide +kernel
theorem dX5_walkFrom_153 : decode cX5_walkFrom 153 = .ok (.getfield 33, 3) := by decide +kernel
theorem dX5_walkFrom_156 : decode cX5_walkFrom 156 = .ok (.iload 5, 2) := by decide +kernel
theorem dX5_walkFrom_158 : decode cX5_walkFrom 158 = .ok (.iaload, 1) := by decide +kernel
theorem dX5_walkFrom_159 : decode cX5_walkFrom 159 = .ok (.iastore, 1) := by decide +kernel
theorem dX5_walkFrom_160 : decode cX5_walkFrom 160 = .ok (.aload_n 0, 1) := by decide +kernel
theorem dX5_walkFrom_161 : decode cX5_walkFrom 161 = .ok (.getfield 36, 3) := by decide +kernel
theorem dX5_walkFrom_164 : decode cX5_walkFrom 164 = .ok (.iload_n 3, 1) := by decide +kernel
theorem dX5_walkFrom_165 : decode cX5_walkFrom 165 = .ok (.iinc 3 1, 3) := by decide +kernel
theorem dX5_walkFrom_168 : decode cX5_walkFrom 168 = .ok (.iload 7, 2) := by decide +kernel
theorem dX5_walkFrom_170 : decode cX5_walkFrom 170 = .ok (.iastore, 1) := by decide +kernel
theorem dX5_walkFrom_171 : decode cX5_walkFrom 171 = .ok (.iinc 6 1, 3) := by decide +kernel
theorem dX5_walkFrom_174 : decode cX5_walkFrom 174 = .ok (.goto (-112), 3) := by decide +kernel
theorem dX5_walkFrom_177 : decode cX5_walkFrom 177 = .ok (.iinc 4 1, 3) := by decide +kernel
theorem dX5_walkFrom_180 : decode cX5_walkFrom 180 = .ok (.goto (-143), 3) := by decide +kernel
theorem dX5_walkFrom_183 : decode cX5_walkFrom 183 = .ok (.return_, 1) := by decide +kernel
theorem dX5_isPassable_0 : decode cX5_isPassable 0 = .ok (.iload_n 2, 1) := by decide +kernel
theorem dX5_isPassable_1 : decode cX5_isPassable 1 = .ok (.ifCond .eq 32, 3) := by decide +kernel
theorem dX5_isPassable_4 : decode cX5_isPassable 4 = .ok (.aload_n 0, 1) := by decide +kernel
theorem dX5_isPassable_5 : decode cX5_isPassable 5 = .ok (.getfield 15, 3) := by decide +kernel
theorem dX5_isPassable_8 : decode cX5_isPassable 8 = .ok (.iload_n 1, 1) := by decide +kernel
theorem dX5_isPassable_9 : decode cX5_isPassable 9 = .ok (.iaload, 1) := by decide +kernel
theorem dX5_isPassable_10 : decode cX5_isPassable 10 = .ok (.bipush (-9), 2) := by decide +kernel
theorem dX5_isPassable_12 : decode cX5_isPassable 12 = .ok (.if_icmp .eq 21, 3) := by decide +kernel
theorem dX5_isPassable_15 : decode cX5_isPassable 15 = .ok (.aload_n 0, 1) := by decide +kernel
theorem dX5_isPassable_16 : decode cX5_isPassable 16 = .ok (.getfield 43, 3) := by decide +kernel
theorem dX5_isPassable_19 : decode cX5_isPassable 19 = .ok (.aload_n 0, 1) := by decide +kernel
theorem dX5_isPassable_20 : decode cX5_isPassable 20 = .ok (.getfield 15, 3) := by decide +kernel
theorem dX5_isPassable_23 : decode cX5_isPassable 23 = .ok (.iload_n 1, 1) := by decide +kernel
theorem dX5_isPassable_24 : decode cX5_isPassable 24 = .ok (.iaload, 1) := by decide +kernel
theorem dX5_isPassable_25 : decode cX5_isPassable 25 = .ok (.iconst 0, 1) := by decide +kernel
theorem dX5_isPassable_26 : decode cX5_isPassable 26 = .ok (.invokevirtual 105, 3) := by decide +kernel
theorem dX5_isPassable_29 : decode cX5_isPassable 29 = .ok (.iconst 1, 1) := by decide +kernel
theorem dX5_isPassable_30 : decode cX5_isPassable 30 = .ok (.if_icmp .ne 7, 3) := by decide +kernel
theorem dX5_isPassable_33 : decode cX5_isPassable 33 = .ok (.iconst 1, 1) := by decide +kernel
theorem dX5_isPassable_34 : decode cX5_isPassable 34 = .ok (.goto 4, 3) := by decide +kernel
theorem dX5_isPassable_37 : decode cX5_isPassable 37 = .ok (.iconst 0, 1) := by decide +kernel
theorem dX5_isPassable_38 : decode cX5_isPassable 38 = .ok (.ireturn, 1) := by decide +kernel
theorem dX6_init_0 : decode cX6_init 0 = .ok (.aload_n 0, 1) := by decide +kernel
theorem dX6_init_1 : decode cX6_init 1 = .ok (.invokespecial 3, 3) := by decide +kernel
theorem dX6_init_4 : decode cX6_init 4 = .ok (.aload_n 0, 1) := by decide +kernel
theorem dX6_init_5 : decode cX6_init 5 = .ok (.bipush 30, 2) := by decide +kernel
theorem dX6_init_7 : decode cX6_init 7 = .ok (.newarray .int, 2) := by decide +kernel
theorem dX6_init_9 : decode cX6_init 9 = .ok (.putfield 9, 3) := by decide +kernel
theorem dX6_init_12 : decode cX6_init 12 = .ok (.aload_n 0, 1) := by decide +kernel
theorem dX6_init_13 : decode cX6_init 13 = .ok (.aload_n 1, 1) := by decide +kernel
theorem dX6_init_14 : decode cX6_init 14 = .ok (.putfield 15, 3) := by decide +kernel
theorem dX6_init_17 : decode cX6_init 17 = .ok (.aload_n 0, 1) := by decide +kernel
theorem dX6_init_18 : decode cX6_init 18 = .ok (.getfield 9, 3) := by decide +kernel
theorem dX6_init_21 : decode cX6_init 21 = .ok (.sipush 255, 3) := by decide +kernel
theorem dX6_init_24 : decode cX6_init 24 = .ok (.invokestatic 19, 3) := by decide +kernel
theorem dX6_init_27 : decode cX6_init 27 = .ok (.return_, 1) := by decide +kernel
theorem dX6_placed_0 : decode cX6_placed 0 = .ok (.iload_n 0, 1) := by decide +kernel
theorem dX6_placed_1 : decode cX6_placed 1 = .ok (.sipush (-256), 3) := by decide +kernel
theorem dX6_placed_4 : decode cX6_placed 4 = .ok (.iand, 1) := by decide +kernel
theorem dX6_placed_5 : decode cX6_placed 5 = .ok (.iload_n 2, 1) := by decide +kernel
theorem dX6_placed_6 : decode cX6_placed 6 = .ok (.iconst 3, 1) := by decide +kernel
theorem dX6_placed_7 : decode cX6_placed 7 = .ok (.ishl, 1) := by decide +kernel
theorem dX6_placed_8 : decode cX6_placed 8 = .ok (.ior, 1) := by decide +kernel
theorem dX6_placed_9 : decode cX6_placed 9 = .ok (.iload_n 1, 1) := by decide +kernel
theorem dX6_placed_10 : decode cX6_placed 10 = .ok (.ior, 1) := by decide +kernel
theorem dX6_placed_11 : decode cX6_placed 11 = .ok (.ireturn, 1) := by decide +kernel
theorem dX6_flagged_0 : decode cX6_flagged 0 = .ok (.iconst 1, 1) := by decide +kernel
theorem dX6_flagged_1 : decode cX6_flagged 1 = .ok (.bipush 8, 2) := by decide +kernel
theorem dX6_flagged_3 : decode cX6_flagged 3 = .ok (.iload_n 1, 1) := by decide +kernel
theorem dX6_flagged_4 : decode cX6_flagged 4 = .ok (.iadd, 1) := by decide +kernel
theorem dX6_flagged_5 : decode cX6_flagged 5 = .ok (.ishl, 1) := by decide +kernel
theorem dX6_flagged_6 : decode cX6_flagged 6 = .ok (.istore_n 3, 1) := by decide +kernel
theorem dX6_flagged_7 : decode cX6_flagged 7 = .ok (.iload_n 2, 1) := by decide +kernel
theorem dX6_flagged_8 : decode cX6_flagged 8 = .ok (.ifCond .eq 9, 3) := by decide +kernel
theorem dX6_flagged_11 : decode cX6_flagged 11 = .ok (.iload_n 0, 1) := by decide +kernel
theorem dX6_flagged_12 : decode cX6_flagged 12 = .ok (.iload_n 3, 1) := by decide +kernel
theorem dX6_flagged_13 : decode cX6_flagged 13 = .ok (.ior, 1) := by decide +kernel
theorem dX6_flagged_14 : decode cX6_flagged 14 = .ok (.goto 8, 3) := by decide +kernel
theorem dX6_flagged_17 : decode cX6_flagged 17 = .ok (.iload_n 0, 1) := by decide +kernel
theorem dX6_flagged_18 : decode cX6_flagged 18 = .ok (.iload_n 3, 1) := by decide +kernel
theorem dX6_flagged_19 : decode cX6_flagged 19 = .ok (.iconst (-1), 1) := by decide +kernel
theorem dX6_flagged_20 : decode cX6_flagged 20 = .ok (.ixor, 1) := by decide +kernel
theorem dX6_flagged_21 : decode cX6_flagged 21 = .ok (.iand, 1) := by decide +kernel
theorem dX6_flagged_22 : decode cX6_flagged 22 = .ok (.ireturn, 1) := by decide +kernel
theorem dX6_formOf_0 : decode cX6_formOf 0 = .ok (.aload_n 0, 1) := by decide +kernel
theorem dX6_formOf_1 : decode cX6_formOf 1 = .ok (.getfield 9, 3) := by decide +kernel
theorem dX6_formOf_4 : decode cX6_formOf 4 = .ok (.iload_n 1, 1) := by decide +kernel
theorem dX6_formOf_5 : decode cX6_formOf 5 = .ok (.iaload, 1) := by decide +kernel
theorem dX6_formOf_6 : decode cX6_formOf 6 = .ok (.bipush 7, 2) := by decide +kernel
theorem dX6_formOf_8 : decode cX6_formOf 8 = .ok (.iand, 1) := by decide +kernel
theorem dX6_formOf_9 : decode cX6_formOf 9 = .ok (.istore_n 2, 1) := by decide +kernel
theorem dX6_formOf_10 : decode cX6_formOf 10 = .ok (.iload_n 2, 1) := by decide +kernel
theorem dX6_formOf_11 : decode cX6_formOf 11 = .ok (.bipush 7, 2) := by decide +kernel
theorem dX6_formOf_13 : decode cX6_formOf 13 = .ok (.if_icmp .ne 8, 3) := by decide +kernel
theorem dX6_formOf_16 : decode cX6_formOf 16 = .ok (.bipush (-9), 2) := by decide +kernel
theorem dX6_formOf_18 : decode cX6_formOf 18 = .ok (.goto 4, 3) := by decide +kernel
theorem dX6_formOf_21 : decode cX6_formOf 21 = .ok (.iload_n 2, 1) := by decide +kernel
theorem dX6_formOf_22 : decode cX6_formOf 22 = .ok (.ireturn, 1) := by decide +kernel
theorem dX6_holderOf_0 : decode cX6_holderOf 0 = .ok (.aload_n 0, 1) := by decide +kernel
theorem dX6_holderOf_1 : decode cX6_holderOf 1 = .ok (.getfield 9, 3) := by decide +kernel
theorem dX6_holderOf_4 : decode cX6_holderOf 4 = .ok (.iload_n 1, 1) := by decide +kernel
theorem dX6_holderOf_5 : decode cX6_holderOf 5 = .ok (.iaload, 1) := by decide +kernel
theorem dX6_holderOf_6 : decode cX6_holderOf 6 = .ok (.iconst 3, 1) := by decide +kernel
theorem dX6_holderOf_7 : decode cX6_holderOf 7 = .ok (.ishr, 1) := by decide +kernel
theorem dX6_holderOf_8 : decode cX6_holderOf 8 = .ok (.bipush 31, 2) := by decide +kernel
theorem dX6_holderOf_10 : decode cX6_holderOf 10 = .ok (.iand, 1) := by decide +kernel
theorem dX6_holderOf_11 : decode cX6_holderOf 11 = .ok (.istore_n 2, 1) := by decide +kernel
theorem dX6_holderOf_12 : decode cX6_holderOf 12 = .ok (.iload_n 2, 1) := by decide +kernel
theorem dX6_holderOf_13 : decode cX6_holderOf 13 = .ok (.bipush 31, 2) := by decide +kernel
theorem dX6_holderOf_15 : decode cX6_holderOf 15 = .ok (.if_icmp .ne 8, 3) := by decide +kernel
theorem dX6_holderOf_18 : decode cX6_holderOf 18 = .ok (.bipush (-9), 2) := by decide +kernel
theorem dX6_holderOf_20 : decode cX6_holderOf 20 = .ok (.goto 4, 3) := by decide +kernel
theorem dX6_holderOf_23 : decode cX6_holderOf 23 = .ok (.iload_n 2, 1) := by decide +kernel
theorem dX6_holderOf_24 : decode cX6_holderOf 24 = .ok (.ireturn, 1) := by decide +kernel
theorem dX6_lies_0 : decode cX6_lies 0 = .ok (.aload_n 0, 1) := by decide +kernel
theorem dX6_lies_1 : decode cX6_lies 1 = .ok (.getfield 9, 3) := by decide +kernel
theorem dX6_lies_4 : decode cX6_lies 4 = .ok (.iload_n 1, 1) := by decide +kernel
theorem dX6_lies_5 : decode cX6_lies 5 = .ok (.iaload, 1) := by decide +kernel
theorem dX6_lies_6 : decode cX6_lies 6 = .ok (.sipush 255, 3) := by decide +kernel
theorem dX6_lies_9 : decode cX6_lies 9 = .ok (.iand, 1) := by decide +kernel
theorem dX6_lies_10 : decode cX6_lies 10 = .ok (.iload_n 3, 1) := by decide +kernel
theorem dX6_lies_11 : decode cX6_lies 11 = .ok (.iconst 3, 1) := by decide +kernel
theorem dX6_lies_12 : decode cX6_lies 12 = .ok (.ishl, 1) := by decide +kernel
theorem dX6_lies_13 : decode cX6_lies 13 = .ok (.iload_n 2, 1) := by decide +kernel
theorem dX6_lies_14 : decode cX6_lies 14 = .ok (.ior, 1) := by decide +kernel
theorem dX6_lies_15 : decode cX6_lies 15 = .ok (.if_icmp .ne 7, 3) := by decide +kernel
theorem dX6_lies_18 : decode cX6_lies 18 = .ok (.iconst 1, 1) := by decide +kernel
theorem dX6_lies_19 : decode cX6_lies 19 = .ok (.goto 4, 3) := by decide +kernel
theorem dX6_lies_22 : decode cX6_lies 22 = .ok (.iconst 0, 1) := by decide +kernel
theorem dX6_lies_23 : decode cX6_lies 23 = .ok (.ireturn, 1) := by decide +kernel
theorem dX6_has_0 : decode cX6_has 0 = .ok (.aload_n 0, 1) := by decide +kernel
theorem dX6_has_1 : decode cX6_has 1 = .ok (.getfield 9, 3) := by decide +kernel
theorem dX6_has_4 : decode cX6_has 4 = .ok (.iload_n 1, 1) := by decide +kernel
theorem dX6_has_5 : decode cX6_has 5 = .ok (.iaload, 1) := by decide +kernel
theorem dX6_has_6 : decode cX6_has 6 = .ok (.bipush 8, 2) := by decide +kernel
theorem dX6_has_8 : decode cX6_has 8 = .ok (.iload_n 2, 1) := by decide +kernel
theorem dX6_has_9 : decode cX6_has 9 = .ok (.iadd, 1) := by decide +kernel
theorem dX6_has_10 : decode cX6_has 10 = .ok (.ishr, 1) := by decide +kernel
theorem dX6_has_11 : decode cX6_has 11 = .ok (.iconst 1, 1) := by decide +kernel
theorem dX6_has_12 : decode cX6_has 12 = .ok (.iand, 1) := by decide +kernel
theorem dX6_has_13 : decode cX6_has 13 = .ok (.iconst 1, 1) := by decide +kernel
theorem dX6_has_14 : decode cX6_has 14 = .ok (.if_icmp .ne 7, 3) := by decide +kernel
theorem dX6_has_17 : decode cX6_has 17 = .ok (.iconst 1, 1) := by decide +kernel
theorem dX6_has_18 : decode cX6_has 18 = .ok (.goto 4, 3) := by decide +kernel
theorem dX6_has_21 : decode cX6_has 21 = .ok (.iconst 0, 1) := by decide +kernel
theorem dX6_has_22 : decode cX6_has 22 = .ok (.ireturn, 1) := by decide +kernel
theorem dX6_isUp_0 : decode cX6_isUp 0 = .ok (.aload_n 0, 1) := by decide +kernel
theorem dX6_isUp_1 : decode cX6_isUp 1 = .ok (.iload_n 2, 1) := by decide +kernel
theorem dX6_isUp_2 : decode cX6_isUp 2 = .ok (.invokevirtual 25, 3) := by decide +kernel
theorem dX6_isUp_5 : decode cX6_isUp 5 = .ok (.istore_n 3, 1) := by decide +kernel
theorem dX6_isUp_6 : decode cX6_isUp 6 = .ok (.iconst 0, 1) := by decide +kernel
theorem dX6_isUp_7 : decode cX6_isUp 7 = .ok (.istore 4, 2) := by decide +kernel
theorem dX6_isUp_9 : decode cX6_isUp 9 = .ok (.iload 4, 2) := by decide +kernel
theorem dX6_isUp_11 : decode cX6_isUp 11 = .ok (.bipush 30, 2) := by decide +kernel
theorem dX6_isUp_13 : decode cX6_isUp 13 = .ok (.if_icmp .ge 28, 3) := by decide +kernel
theorem dX6_isUp_16 : decode cX6_isUp 16 = .ok (.iload_n 3, 1) := by decide +kernel
theorem dX6_isUp_17 : decode cX6_isUp 17 = .ok (.bipush (-9), 2) := by decide +kernel
theorem dX6_isUp_19 : decode cX6_isUp 19 = .ok (.if_icmp .eq 22, 3) := by decide +kernel
theorem dX6_isUp_22 : decode cX6_isUp 22 = .ok (.iload_n 3, 1) := by decide +kernel
theorem dX6_isUp_23 : decode cX6_isUp 23 = .ok (.iload_n 1, 1) := by decide +kernel
theorem dX6_isUp_24 : decode cX6_isUp 24 = .ok (.if_icmp .ne 5, 3) := by decide +kernel
theorem dX6_isUp_27 : decode cX6_isUp 27 = .ok (.iconst 1, 1) := by decide +kernel
theorem dX6_isUp_28 : decode cX6_isUp 28 = .ok (.ireturn, 1) := by decide +kernel
theorem dX6_isUp_29 : decode cX6_isUp 29 = .ok (.aload_n 0, 1) := by decide +kernel
theorem dX6_isUp_30 : decode cX6_isUp 30 = .ok (.iload_n 3, 1) := by decide +kernel
theorem dX6_isUp_31 : decode cX6_isUp 31 = .ok (.invokevirtual 25, 3) := by decide +kernel
theorem dX6_isUp_34 : decode cX6_isUp 34 = .ok (.istore_n 3, 1) := by decide +kernel
theorem dX6_isUp_35 : decode cX6_isUp 35 = .ok (.iinc 4 1, 3) := by decide +kernel
theorem dX6_isUp_38 : decode cX6_isUp 38 = .ok (.goto (-29), 3) := by decide +kernel
theorem dX6_isUp_41 : decode cX6_isUp 41 = .ok (.iconst 0, 1) := by decide +kernel
theorem dX6_isUp_42 : decode cX6_isUp 42 = .ok (.ireturn, 1) := by decide +kernel
theorem dX6_roomOf_0 : decode cX6_roomOf 0 = .ok (.iload_n 1, 1) := by decide +kernel
theorem dX6_roomOf_1 : decode cX6_roomOf 1 = .ok (.istore_n 2, 1) := by decide +kernel
theorem dX6_roomOf_2 : decode cX6_roomOf 2 = .ok (.iconst 0, 1) := by decide +kernel
theorem dX6_roomOf_3 : decode cX6_roomOf 3 = .ok (.istore_n 3, 1) := by decide +kernel
theorem dX6_roomOf_4 : decode cX6_roomOf 4 = .ok (.iload_n 3, 1) := by decide +kernel
theorem dX6_roomOf_5 : decode cX6_roomOf 5 = .ok (.bipush 30, 2) := by decide +kernel
theorem dX6_roomOf_7 : decode cX6_roomOf 7 = .ok (.if_icmp .gt 34, 3) := by decide +kernel
theorem dX6_roomOf_10 : decode cX6_roomOf 10 = .ok (.iload_n 2, 1) := by decide +kernel
theorem dX6_roomOf_11 : decode cX6_roomOf 11 = .ok (.bipush (-9), 2) := by decide +kernel
theorem dX6_roomOf_13 : decode cX6_roomOf 13 = .ok (.if_icmp .eq 28, 3) := by decide +kernel
theorem dX6_roomOf_16 : decode cX6_roomOf 16 = .ok (.aload_n 0, 1) := by decide +kernel
theorem dX6_roomOf_17 : decode cX6_roomOf 17 = .ok (.getfield 15, 3) := by decide +kernel
theorem dX6_roomOf_20 : decode cX6_roomOf 20 = .ok (.iload_n 2, 1) := by decide +kernel
theorem dX6_roomOf_21 : decode cX6_roomOf 21 = .ok (.invokevirtual 29, 3) := by decide +kernel
theorem dX6_roomOf_24 : decode cX6_roomOf 24 = .ok (.ifCond .ne 5, 3) := by decide +kernel
theorem dX6_roomOf_27 : decode cX6_roomOf 27 = .ok (.iload_n 2, 1) := by decide +kernel
theorem dX6_roomOf_28 : decode cX6_roomOf 28 = .ok (.ireturn, 1) := by decide +kernel
theorem dX6_roomOf_29 : decode cX6_roomOf 29 = .ok (.aload_n 0, 1) := by decide +kernel
theorem dX6_roomOf_30 : decode cX6_roomOf 30 = .ok (.iload_n 2, 1) := by decide +kernel
theorem dX6_roomOf_31 : decode cX6_roomOf 31 = .ok (.invokevirtual 25, 3) := by decide +kernel
theorem dX6_roomOf_34 : decode cX6_roomOf 34 = .ok (.istore_n 2, 1) := by decide +kernel
theorem dX6_roomOf_35 : decode cX6_roomOf 35 = .ok (.iinc 3 1, 3) := by decide +kernel
theorem dX6_roomOf_38 : decode cX6_roomOf 38 = .ok (.goto (-34), 3) := by decide +kernel
theorem dX6_roomOf_41 : decode cX6_roomOf 41 = .ok (.bipush (-9), 2) := by decide +kernel
theorem dX6_roomOf_43 : decode cX6_roomOf 43 = .ok (.ireturn, 1) := by decide +kernel
theorem dX6_countOf_0 : decode cX6_countOf 0 = .ok (.iconst 0, 1) := by decide +kernel
theorem dX6_countOf_1 : decode cX6_countOf 1 = .ok (.istore_n 3, 1) := by decide +kernel
theorem dX6_countOf_2 : decode cX6_countOf 2 = .ok (.iconst 0, 1) := by decide +kernel
theorem dX6_countOf_3 : decode cX6_countOf 3 = .ok (.istore 4, 2) := by decide +kernel
theorem dX6_countOf_5 : decode cX6_countOf 5 = .ok (.iload 4, 2) := by decide +kernel
theorem dX6_countOf_7 : decode cX6_countOf 7 = .ok (.aload_n 0, 1) := by decide +kernel
theorem dX6_countOf_8 : decode cX6_countOf 8 = .ok (.getfield 15, 3) := by decide +kernel
theorem dX6_countOf_11 : decode cX6_countOf 11 = .ok (.getfield 34, 3) := by decide +kernel
theorem dX6_countOf_14 : decode cX6_countOf 14 = .ok (.if_icmp .ge 23, 3) := by decide +kernel
theorem dX6_countOf_17 : decode cX6_countOf 17 = .ok (.aload_n 0, 1) := by decide +kernel
theorem dX6_countOf_18 : decode cX6_countOf 18 = .ok (.iload 4, 2) := by decide +kernel
theorem dX6_countOf_20 : decode cX6_countOf 20 = .ok (.iload_n 1, 1) := by decide +kernel
theorem dX6_countOf_21 : decode cX6_countOf 21 = .ok (.iload_n 2, 1) := by decide +kernel
theorem dX6_countOf_22 : decode cX6_countOf 22 = .ok (.invokevirtual 38, 3) := by decide +kernel
theorem dX6_countOf_25 : decode cX6_countOf 25 = .ok (.ifCond .eq 6, 3) := by decide +kernel
theorem dX6_countOf_28 : decode cX6_countOf 28 = .ok (.iinc 3 1, 3) := by decide +kernel
theorem dX6_countOf_31 : decode cX6_countOf 31 = .ok (.iinc 4 1, 3) := by decide +kernel
theorem dX6_countOf_34 : decode cX6_countOf 34 = .ok (.goto (-29), 3) := by decide +kernel
theorem dX6_countOf_37 : decode cX6_countOf 37 = .ok (.iload_n 3, 1) := by decide +kernel
theorem dX6_countOf_38 : decode cX6_countOf 38 = .ok (.ireturn, 1) := by decide +kernel
theorem dX7_init_0 : decode cX7_init 0 = .ok (.aload_n 0, 1) := by decide +kernel
theorem dX7_init_1 : decode cX7_init 1 = .ok (.invokespecial 3, 3) := by decide +kernel
theorem dX7_init_4 : decode cX7_init 4 = .ok (.aload_n 0, 1) := by decide +kernel
theorem dX7_init_5 : decode cX7_init 5 = .ok (.sipush 9000, 3) := by decide +kernel
theorem dX7_init_8 : decode cX7_init 8 = .ok (.newarray .int, 2) := by decide +kernel
theorem dX7_init_10 : decode cX7_init 10 = .ok (.putfield 9, 3) := by decide +kernel
theorem dX7_init_13 : decode cX7_init 13 = .ok (.aload_n 0, 1) := by decide +kernel
theorem dX7_init_14 : decode cX7_init 14 = .ok (.sipush 300, 3) := by decide +kernel
theorem dX7_init_17 : decode cX7_init 17 = .ok (.newarray .int, 2) := by decide +kernel
theorem dX7_init_19 : decode cX7_init 19 = .ok (.putfield 15, 3) := by decide +kernel
theorem dX7_init_22 : decode cX7_init 22 = .ok (.aload_n 0, 1) := by decide +kernel
theorem dX7_init_23 : decode cX7_init 23 = .ok (.sipush 1024, 3) := by decide +kernel
theorem dX7_init_26 : decode cX7_init 26 = .ok (.newarray .int, 2) := by decide +kernel
theorem dX7_init_28 : decode cX7_init 28 = .ok (.putfield 18, 3) := by decide +kernel
theorem dX7_init_31 : decode cX7_init 31 = .ok (.aload_n 0, 1) := by decide +kernel
theorem dX7_init_32 : decode cX7_init 32 = .ok (.sipush 300, 3) := by decide +kernel
theorem dX7_init_35 : decode cX7_init 35 = .ok (.newarray .int, 2) := by decide +kernel
theorem dX7_init_37 : decode cX7_init 37 = .ok (.putfield 21, 3) := by decide +kernel
theorem dX7_init_40 : decode cX7_init 40 = .ok (.aload_n 0, 1) := by decide +kernel
theorem dX7_init_41 : decode cX7_init 41 = .ok (.sipush 300, 3) := by decide +kernel
theorem dX7_init_44 : decode cX7_init 44 = .ok (.newarray .int, 2) := by decide +kernel
theorem dX7_init_46 : decode cX7_init 46 = .ok (.putfield 24, 3) := by decide +kernel
theorem dX7_init_49 : decode cX7_init 49 = .ok (.aload_n 0, 1) := by decide +kernel
theorem dX7_init_50 : decode cX7_init 50 = .ok (.sipush 300, 3) := by decide +kernel
theorem dX7_init_53 : decode cX7_init 53 = .ok (.newarray .int, 2) := by decide +kernel
theorem dX7_init_55 : decode cX7_init 55 = .ok (.putfield 27, 3) := by decide +kernel
theorem dX7_init_58 : decode cX7_init 58 = .ok (.aload_n 0, 1) := by decide +kernel
theorem dX7_init_59 : decode cX7_init 59 = .ok (.aload_n 1, 1) := by decide +kernel
theorem dX7_init_60 : decode cX7_init 60 = .ok (.putfield 30, 3) := by decide +kernel
theorem dX7_init_63 : decode cX7_init 63 = .ok (.aload_n 0, 1) := by decide +kernel
theorem dX7_init_64 : decode cX7_init 64 = .ok (.new 34, 3) := by decide +kernel
theorem dX7_init_67 : decode cX7_init 67 = .ok (.dup, 1) := by decide +kernel
theorem dX7_init_68 : decode cX7_init 68 = .ok (.aload_n 1, 1) := by decide +kernel
theorem dX7_init_69 : decode cX7_init 69 = .ok (.invokespecial 36, 3) := by decide +kernel
theorem dX7_init_72 : decode cX7_init 72 = .ok (.putfield 39, 3) := by decide +kernel
theorem dX7_init_75 : decode cX7_init 75 = .ok (.aload_n 0, 1) := by decide +kernel
theorem dX7_init_76 : decode cX7_init 76 = .ok (.new 43, 3) := by decide +kernel
theorem dX7_init_79 : decode cX7_init 79 = .ok (.dup, 1) := by decide +kernel
theorem dX7_init_80 : decode cX7_init 80 = .ok (.aload_n 1, 1) := by decide +kernel
theorem dX7_init_81 : decode cX7_init 81 = .ok (.aload_n 3, 1) := by decide +kernel
theorem dX7_init_82 : decode cX7_init 82 = .ok (.aload_n 0, 1) := by decide +kernel
theorem dX7_init_83 : decode cX7_init 83 = .ok (.getfield 39, 3) := by decide +kernel
theorem dX7_init_86 : decode cX7_init 86 = .ok (.invokespecial 45, 3) := by decide +kernel
theorem dX7_init_89 : decode cX7_init 89 = .ok (.putfield 48, 3) := by decide +kernel
theorem dX7_init_92 : decode cX7_init 92 = .ok (.aload_n 0, 1) := by decide +kernel
theorem dX7_init_93 : decode cX7_init 93 = .ok (.new 52, 3) := by decide +kernel
theorem dX7_init_96 : decode cX7_init 96 = .ok (.dup, 1) := by decide +kernel
theorem dX7_init_97 : decode cX7_init 97 = .ok (.aload_n 1, 1) := by decide +kernel
theorem dX7_init_98 : decode cX7_init 98 = .ok (.aload_n 2, 1) := by decide +kernel
theorem dX7_init_99 : decode cX7_init 99 = .ok (.aload_n 3, 1) := by decide +kernel
theorem dX7_init_100 : decode cX7_init 100 = .ok (.aload 4, 2) := by decide +kernel
theorem dX7_init_102 : decode cX7_init 102 = .ok (.aload_n 0, 1) := by decide +kernel
theorem dX7_init_103 : decode cX7_init 103 = .ok (.getfield 48, 3) := by decide +kernel
theorem dX7_init_106 : decode cX7_init 106 = .ok (.invokespecial 54, 3) := by decide +kernel
theorem dX7_init_109 : decode cX7_init 109 = .ok (.putfield 57, 3) := by decide +kernel
theorem dX7_init_112 : decode cX7_init 112 = .ok (.aload_n 0, 1) := by decide +kernel
theorem dX7_init_113 : decode cX7_init 113 = .ok (.bipush (-9), 2) := by decide +kernel
theorem dX7_init_115 : decode cX7_init 115 = .ok (.putfield 61, 3) := by decide +kernel
theorem dX7_init_118 : decode cX7_init 118 = .ok (.return_, 1) := by decide +kernel
theorem dX7_startFrom_0 : decode cX7_startFrom 0 = .ok (.aload_n 1, 1) := by decide +kernel
theorem dX7_startFrom_1 : decode cX7_startFrom 1 = .ok (.getfield 65, 3) := by decide +kernel
theorem dX7_startFrom_4 : decode cX7_startFrom 4 = .ok (.iconst 0, 1) := by decide +kernel
theorem dX7_startFrom_5 : decode cX7_startFrom 5 = .ok (.aload_n 0, 1) := by decide +kernel
theorem dX7_startFrom_6 : decode cX7_startFrom 6 = .ok (.getfield 39, 3) := by decide +kernel
theorem dX7_startFrom_9 : decode cX7_startFrom 9 = .ok (.getfield 65, 3) := by decide +kernel
theorem dX7_startFrom_12 : decode cX7_startFrom 12 = .ok (.iconst 0, 1) := by decide +kernel
theorem dX7_startFrom_13 : decode cX7_startFrom 13 = .ok (.bipush 30, 2) := by decide +kernel
theorem dX7_startFrom_15 : decode cX7_startFrom 15 = .ok (.invokestatic 68, 3) := by decide +kernel
theorem dX7_startFrom_18 : decode cX7_startFrom 18 = .ok (.aload_n 0, 1) := by decide +kernel
theorem dX7_startFrom_19 : decode cX7_startFrom 19 = .ok (.getfield 57, 3) := by decide +kernel
theorem dX7_startFrom_22 : decode cX7_startFrom 22 = .ok (.iload_n 2, 1) := by decide +kernel
theorem dX7_startFrom_23 : decode cX7_startFrom 23 = .ok (.putfield 74, 3) := by decide +kernel
theorem dX7_startFrom_26 : decode cX7_startFrom 26 = .ok (.return_, 1) := by decide +kernel
theorem dX7_search_0 : decode cX7_search 0 = .ok (.aload_n 0, 1) := by decide +kernel
theorem dX7_search_1 : decode cX7_search 1 = .ok (.iload_n 1, 1) := by decide +kernel
theorem dX7_search_2 : decode cX7_search 2 = .ok (.putfield 77, 3) := by decide +kernel
theorem dX7_search_5 : decode cX7_search 5 = .ok (.aload_n 0, 1) := by decide +kernel
theorem dX7_search_6 : decode cX7_search 6 = .ok (.iload_n 2, 1) := by decide +kernel
theorem dX7_search_7 : decode cX7_search 7 = .ok (.putfield 80, 3) := by decide +kernel
theorem dX7_search_10 : decode cX7_search 10 = .ok (.aload_n 0, 1) := by decide +kernel
theorem dX7_search_11 : decode cX7_search 11 = .ok (.bipush (-9), 2) := by decide +kernel
theorem dX7_search_13 : decode cX7_search 13 = .ok (.putfield 83, 3) := by decide +kernel
theorem dX7_search_16 : decode cX7_search 16 = .ok (.aload_n 0, 1) := by decide +kernel
theorem dX7_search_17 : decode cX7_search 17 = .ok (.iconst 0, 1) := by decide +kernel
theorem dX7_search_18 : decode cX7_search 18 = .ok (.putfield 86, 3) := by decide +kernel
theorem dX7_search_21 : decode cX7_search 21 = .ok (.aload_n 0, 1) := by decide +kernel
theorem dX7_search_22 : decode cX7_search 22 = .ok (.getfield 18, 3) := by decide +kernel
theorem dX7_search_25 : decode cX7_search 25 = .ok (.bipush (-9), 2) := by decide +kernel
theorem dX7_search_27 : decode cX7_search 27 = .ok (.invokestatic 89, 3) := by decide +kernel
theorem dX7_search_30 : decode cX7_search 30 = .ok (.aload_n 0, 1) := by decide +kernel
theorem dX7_search_31 : decode cX7_search 31 = .ok (.invokevirtual 95, 3) := by decide +kernel
theorem dX7_search_34 : decode cX7_search 34 = .ok (.istore 4, 2) := by decide +kernel
theorem dX7_search_36 : decode cX7_search 36 = .ok (.aload_n 0, 1) := by decide +kernel
theorem dX7_search_37 : decode cX7_search 37 = .ok (.iload 4, 2) := by decide +kernel
theorem dX7_search_39 : decode cX7_search 39 = .ok (.aload_n 0, 1) := by decide +kernel
theorem dX7_search_40 : decode cX7_search 40 = .ok (.iload 4, 2) := by decide +kernel
theorem dX7_search_42 : decode cX7_search 42 = .ok (.invokevirtual 99, 3) := by decide +kernel
theorem dX7_search_45 : decode cX7_search 45 = .ok (.bipush (-9), 2) := by decide +kernel
theorem dX7_search_47 : decode cX7_search 47 = .ok (.iconst 0, 1) := by decide +kernel
theorem dX7_search_48 : decode cX7_search 48 = .ok (.invokevirtual 103, 3) := by decide +kernel
theorem dX7_search_51 : decode cX7_search 51 = .ok (.iconst 0, 1) := by decide +kernel
theorem dX7_search_52 : decode cX7_search 52 = .ok (.istore 5, 2) := by decide +kernel
theorem dX7_search_54 : decode cX7_search 54 = .ok (.iload 5, 2) := by decide +kernel
theorem dX7_search_56 : decode cX7_search 56 = .ok (.iload_n 3, 1) := by decide +kernel
theorem dX7_search_57 : decode cX7_search 57 = .ok (.if_icmp .ge 31, 3) := by decide +kernel
theorem dX7_search_60 : decode cX7_search 60 = .ok (.iload 5, 2) := by decide +kernel
theorem dX7_search_62 : decode cX7_search 62 = .ok (.aload_n 0, 1) := by decide +kernel
theorem dX7_search_63 : decode cX7_search 63 = .ok (.getfield 86, 3) := by decide +kernel
theorem dX7_search_66 : decode cX7_search 66 = .ok (.if_icmp .ge 22, 3) := by decide +kernel
theorem dX7_search_69 : decode cX7_search 69 = .ok (.aload_n 0, 1) := by decide +kernel
theorem dX7_search_70 : decode cX7_search 70 = .ok (.invokevirtual 107, 3) := by decide +kernel
theorem dX7_search_73 : decode cX7_search 73 = .ok (.ifCond .ne 15, 3) := by decide +kernel
theorem dX7_search_76 : decode cX7_search 76 = .ok (.aload_n 0, 1) := by decide +kernel
theorem dX7_search_77 : decode cX7_search 77 = .ok (.iload 5, 2) := by decide +kernel
theorem dX7_search_79 : decode cX7_search 79 = .ok (.invokevirtual 111, 3) := by decide +kernel
theorem dX7_search_82 : decode cX7_search 82 = .ok (.iinc 5 1, 3) := by decide +kernel
theorem dX7_search_85 : decode cX7_search 85 = .ok (.goto (-31), 3) := by decide +kernel
theorem dX7_search_88 : decode cX7_search 88 = .ok (.aload_n 0, 1) := by decide +kernel
theorem dX7_search_89 : decode cX7_search 89 = .ok (.invokevirtual 115, 3) := by decide +kernel
theorem dX7_search_92 : decode cX7_search 92 = .ok (.aload_n 0, 1) := by decide +kernel
theorem dX7_search_93 : decode cX7_search 93 = .ok (.getfield 61, 3) := by decide +kernel
theorem dX7_search_96 : decode cX7_search 96 = .ok (.ireturn, 1) := by decide +kernel
theorem dX7_isEnded_0 : decode cX7_isEnded 0 = .ok (.aload_n 0, 1) := by decide +kernel
theorem dX7_isEnded_1 : decode cX7_isEnded 1 = .ok (.getfield 83, 3) := by decide +kernel
theorem dX7_isEnded_4 : decode cX7_isEnded 4 = .ok (.bipush (-9), 2) := by decide +kernel
theorem dX7_isEnded_6 : decode cX7_isEnded 6 = .ok (.if_icmp .ne 13, 3) := by decide +kernel
theorem dX7_isEnded_9 : decode cX7_isEnded 9 = .ok (.aload_n 0, 1) := by decide +kernel
theorem dX7_isEnded_10 : decode cX7_isEnded 10 = .ok (.getfield 86, 3) := by decide +kernel
theorem dX7_isEnded_13 : decode cX7_isEnded 13 = .ok (.sipush 300, 3) := by decide +kernel
theorem dX7_isEnded_16 : decode cX7_isEnded 16 = .ok (.if_icmp .lt 7, 3) := by decide +kernel
theorem dX7_isEnded_19 : decode cX7_isEnded 19 = .ok (.iconst 1, 1) := by decide +kernel
theorem dX7_isEnded_20 : decode cX7_isEnded 20 = .ok (.goto 4, 3) := by decide +kernel
theorem dX7_isEnded_23 : decode cX7_isEnded 23 = .ok (.iconst 0, 1) := by decide +kernel
theorem dX7_isEnded_24 : decode cX7_isEnded 24 = .ok (.ireturn, 1) := by decide +kernel
theorem dX7_tryFrom_0 : decode cX7_tryFrom 0 = .ok (.aload_n 0, 1) := by decide +kernel
theorem dX7_tryFrom_1 : decode cX7_tryFrom 1 = .ok (.getfield 9, 3) := by decide +kernel
theorem dX7_tryFrom_4 : decode cX7_tryFrom 4 = .ok (.iload_n 1, 1) := by decide +kernel
theorem dX7_tryFrom_5 : decode cX7_tryFrom 5 = .ok (.bipush 30, 2) := by decide +kernel
theorem dX7_tryFrom_7 : decode cX7_tryFrom 7 = .ok (.imul, 1) := by decide +kernel
theorem dX7_tryFrom_8 : decode cX7_tryFrom 8 = .ok (.aload_n 0, 1) := by decide +kernel
theorem dX7_tryFrom_9 : decode cX7_tryFrom 9 = .ok (.getfield 39, 3) := by decide +kernel
theorem dX7_tryFrom_12 : decode cX7_tryFrom 12 = .ok (.getfield 65, 3) := by decide +kernel
theorem dX7_tryFrom_15 : decode cX7_tryFrom 15 = .ok (.iconst 0, 1) := by decide +kernel
theorem dX7_tryFrom_16 : decode cX7_tryFrom 16 = .ok (.bipush 30, 2) := by decide +kernel
theorem dX7_tryFrom_18 : decode cX7_tryFrom 18 = .ok (.invokestatic 68, 3) := by decide +kernel
theorem dX7_tryFrom_21 : decode cX7_tryFrom 21 = .ok (.aload_n 0, 1) := by decide +kernel
theorem dX7_tryFrom_22 : decode cX7_tryFrom 22 = .ok (.getfield 48, 3) := by decide +kernel
theorem dX7_tryFrom_25 : decode cX7_tryFrom 25 = .ok (.aload_n 0, 1) := by decide +kernel
theorem dX7_tryFrom_26 : decode cX7_tryFrom 26 = .ok (.getfield 57, 3) := by decide +kernel
theorem dX7_tryFrom_29 : decode cX7_tryFrom 29 = .ok (.getfield 74, 3) := by decide +kernel
theorem dX7_tryFrom_32 : decode cX7_tryFrom 32 = .ok (.invokevirtual 118, 3) := by decide +kernel
theorem dX7_tryFrom_35 : decode cX7_tryFrom 35 = .ok (.iconst 0, 1) := by decide +kernel
theorem dX7_tryFrom_36 : decode cX7_tryFrom 36 = .ok (.istore_n 2, 1) := by decide +kernel
theorem dX7_tryFrom_37 : decode cX7_tryFrom 37 = .ok (.iload_n 2, 1) := by decide +kernel
theorem dX7_tryFrom_38 : decode cX7_tryFrom 38 = .ok (.bipush 11, 2) := by decide +kernel
theorem dX7_tryFrom_40 : decode cX7_tryFrom 40 = .ok (.if_icmp .gt 80, 3) := by decide +kernel
theorem dX7_tryFrom_43 : decode cX7_tryFrom 43 = .ok (.iload_n 2, 1) := by decide +kernel
theorem dX7_tryFrom_44 : decode cX7_tryFrom 44 = .ok (.ifCond .ne 8, 3) := by decide +kernel
theorem dX7_tryFrom_47 : decode cX7_tryFrom 47 = .ok (.bipush 10, 2) := by decide +kernel
theorem dX7_tryFrom_49 : decode cX7_tryFrom 49 = .ok (.goto 21, 3) := by decide +kernel
theorem dX7_tryFrom_52 : decode cX7_tryFrom 52 = .ok (.iload_n 2, 1) := by decide +kernel
theorem dX7_tryFrom_53 : decode cX7_tryFrom 53 = .ok (.invokestatic 121, 3) := by decide +kernel
theorem dX7_tryFrom_56 : decode cX7_tryFrom 56 = .ok (.ifCond .eq 13, 3) := by decide +kernel
theorem dX7_tryFrom_59 : decode cX7_tryFrom 59 = .ok (.aload_n 0, 1) := by decide +kernel
theorem dX7_tryFrom_60 : decode cX7_tryFrom 60 = .ok (.getfield 30, 3) := by decide +kernel
theorem dX7_tryFrom_63 : decode cX7_tryFrom 63 = .ok (.getfield 125, 3) := by decide +kernel
theorem dX7_tryFrom_66 : decode cX7_tryFrom 66 = .ok (.goto 4, 3) := by decide +kernel
theorem dX7_tryFrom_69 : decode cX7_tryFrom 69 = .ok (.iconst 1, 1) := by decide +kernel
theorem dX7_tryFrom_70 : decode cX7_tryFrom 70 = .ok (.istore_n 3, 1) := by decide +kernel
theorem dX7_tryFrom_71 : decode cX7_tryFrom 71 = .ok (.iconst 0, 1) := by decide +kernel
theorem dX7_tryFrom_72 : decode cX7_tryFrom 72 = .ok (.istore 4, 2) := by decide +kernel
theorem dX7_tryFrom_74 : decode cX7_tryFrom 74 = .ok (.iload 4, 2) := by decide +kernel
theorem dX7_tryFrom_76 : decode cX7_tryFrom 76 = .ok (.iload_n 3, 1) := by decide +kernel
theorem dX7_tryFrom_77 : decode cX7_tryFrom 77 = .ok (.if_icmp .ge 37, 3) := by decide +kernel
theorem dX7_tryFrom_80 : decode cX7_tryFrom 80 = .ok (.aload_n 0, 1) := by decide +kernel
theorem dX7_tryFrom_81 : decode cX7_tryFrom 81 = .ok (.invokevirtual 107, 3) := by decide +kernel
theorem dX7_tryFrom_84 : decode cX7_tryFrom 84 = .ok (.ifCond .ne 30, 3) := by decide +kernel
theorem dX7_tryFrom_87 : decode cX7_tryFrom 87 = .ok (.aload_n 0, 1) := by decide +kernel
theorem dX7_tryFrom_88 : decode cX7_tryFrom 88 = .ok (.getfield 57, 3) := by decide +kernel
theorem dX7_tryFrom_91 : decode cX7_tryFrom 91 = .ok (.iload_n 2, 1) := by decide +kernel
theorem dX7_tryFrom_92 : decode cX7_tryFrom 92 = .ok (.iload 4, 2) := by decide +kernel
theorem dX7_tryFrom_94 : decode cX7_tryFrom 94 = .ok (.invokevirtual 130, 3) := by decide +kernel
theorem dX7_tryFrom_97 : decode cX7_tryFrom 97 = .ok (.ifCond .ne 11, 3) := by decide +kernel
theorem dX7_tryFrom_100 : decode cX7_tryFrom 100 = .ok (.aload_n 0, 1) := by decide +kernel
theorem dX7_tryFrom_101 : decode cX7_tryFrom 101 = .ok (.iload_n 1, 1) := by decide +kernel
theorem dX7_tryFrom_102 : decode cX7_tryFrom 102 = .ok (.iload_n 2, 1) := by decide +kernel
theorem dX7_tryFrom_103 : decode cX7_tryFrom 103 = .ok (.iload 4, 2) := by decide +kernel
theorem dX7_tryFrom_105 : decode cX7_tryFrom 105 = .ok (.invokevirtual 134, 3) := by decide +kernel
theorem dX7_tryFrom_108 : decode cX7_tryFrom 108 = .ok (.iinc 4 1, 3) := by decide +kernel
theorem dX7_tryFrom_111 : decode cX7_tryFrom 111 = .ok (.goto (-37), 3) := by decide +kernel
theorem dX7_tryFrom_114 : decode cX7_tryFrom 114 = .ok (.iinc 2 1, 3) := by decide +kernel
theorem dX7_tryFrom_117 : decode cX7_tryFrom 117 = .ok (.goto (-80), 3) := by decide +kernel
theorem dX7_tryFrom_120 : decode cX7_tryFrom 120 = .ok (.return_, 1) := by decide +kernel
theorem dX7_tryWith_0 : decode cX7_tryWith 0 = .ok (.iload_n 2, 1) := by decide +kernel
theorem dX7_tryWith_1 : decode cX7_tryWith 1 = .ok (.invokestatic 138, 3) := by decide +kernel
theorem dX7_tryWith_4 : decode cX7_tryWith 4 = .ok (.ifCond .eq 13, 3) := by decide +kernel
theorem dX7_tryWith_7 : decode cX7_tryWith 7 = .ok (.aload_n 0, 1) := by decide +kernel
theorem dX7_tryWith_8 : decode cX7_tryWith 8 = .ok (.getfield 30, 3) := by decide +kernel
theorem dX7_tryWith_11 : decode cX7_tryWith 11 = .ok (.getfield 125, 3) := by decide +kernel
theorem dX7_tryWith_14 : decode cX7_tryWith 14 = .ok (.goto 4, 3) := by decide +kernel
theorem dX7_tryWith_17 : decode cX7_tryWith 17 = .ok (.iconst 1, 1) := by decide +kernel
theorem dX7_tryWith_18 : decode cX7_tryWith 18 = .ok (.istore 4, 2) := by decide +kernel
theorem dX7_tryWith_20 : decode cX7_tryWith 20 = .ok (.iconst 0, 1) := by decide +kernel
theorem dX7_tryWith_21 : decode cX7_tryWith 21 = .ok (.istore 5, 2) := by decide +kernel
theorem dX7_tryWith_23 : decode cX7_tryWith 23 = .ok (.iload 5, 2) := by decide +kernel
theorem dX7_tryWith_25 : decode cX7_tryWith 25 = .ok (.iload 4, 2) := by decide +kernel
theorem dX7_tryWith_27 : decode cX7_tryWith 27 = .ok (.if_icmp .ge 39, 3) := by decide +kernel
theorem dX7_tryWith_30 : decode cX7_tryWith 30 = .ok (.aload_n 0, 1) := by decide +kernel
theorem dX7_tryWith_31 : decode cX7_tryWith 31 = .ok (.invokevirtual 107, 3) := by decide +kernel
theorem dX7_tryWith_34 : decode cX7_tryWith 34 = .ok (.ifCond .ne 32, 3) := by decide +kernel
theorem dX7_tryWith_37 : decode cX7_tryWith 37 = .ok (.aload_n 0, 1) := by decide +kernel
theorem dX7_tryWith_38 : decode cX7_tryWith 38 = .ok (.getfield 57, 3) := by decide +kernel
theorem dX7_tryWith_41 : decode cX7_tryWith 41 = .ok (.iload_n 2, 1) := by decide +kernel
theorem dX7_tryWith_42 : decode cX7_tryWith 42 = .ok (.iload_n 3, 1) := by decide +kernel
theorem dX7_tryWith_43 : decode cX7_tryWith 43 = .ok (.iload 5, 2) := by decide +kernel
theorem dX7_tryWith_45 : decode cX7_tryWith 45 = .ok (.invokevirtual 141, 3) := by decide +kernel
theorem dX7_tryWith_48 : decode cX7_tryWith 48 = .ok (.ifCond .ne 12, 3) := by decide +kernel
theorem dX7_tryWith_51 : decode cX7_tryWith 51 = .ok (.aload_n 0, 1) := by decide +kernel
theorem dX7_tryWith_52 : decode cX7_tryWith 52 = .ok (.iload_n 1, 1) := by decide +kernel
theorem dX7_tryWith_53 : decode cX7_tryWith 53 = .ok (.iload_n 2, 1) := by decide +kernel
theorem dX7_tryWith_54 : decode cX7_tryWith 54 = .ok (.iload_n 3, 1) := by decide +kernel
theorem dX7_tryWith_55 : decode cX7_tryWith 55 = .ok (.iload 5, 2) := by decide +kernel
theorem dX7_tryWith_57 : decode cX7_tryWith 57 = .ok (.invokevirtual 145, 3) := by decide +kernel
theorem dX7_tryWith_60 : decode cX7_tryWith 60 = .ok (.iinc 5 1, 3) := by decide +kernel
theorem dX7_tryWith_63 : decode cX7_tryWith 63 = .ok (.goto (-40), 3) := by decide +kernel
theorem dX7_tryWith_66 : decode cX7_tryWith 66 = .ok (.return_, 1) := by decide +kernel
theorem dX7_step_0 : decode cX7_step 0 = .ok (.aload_n 0, 1) := by decide +kernel
theorem dX7_step_1 : decode cX7_step 1 = .ok (.getfield 57, 3) := by decide +kernel
theorem dX7_step_4 : decode cX7_step 4 = .ok (.iload_n 2, 1) := by decide +kernel
theorem dX7_step_5 : decode cX7_step 5 = .ok (.iload_n 3, 1) := by decide +kernel
theorem dX7_step_6 : decode cX7_step 6 = .ok (.invokevirtual 148, 3) := by decide +kernel
theorem dX7_step_9 : decode cX7_step 9 = .ok (.istore 5, 2) := by decide +kernel
theorem dX7_step_11 : decode cX7_step 11 = .ok (.aload_n 0, 1) := by decide +kernel
theorem dX7_step_12 : decode cX7_step 12 = .ok (.getfield 39, 3) := by decide +kernel
theorem dX7_step_15 : decode cX7_step 15 = .ok (.getfield 65, 3) := by decide +kernel
theorem dX7_step_18 : decode cX7_step 18 = .ok (.iload 5, 2) := by decide +kernel
theorem dX7_step_20 : decode cX7_step 20 = .ok (.iaload, 1) := by decide +kernel
theorem dX7_step_21 : decode cX7_step 21 = .ok (.istore 6, 2) := by decide +kernel
theorem dX7_step_23 : decode cX7_step 23 = .ok (.aload_n 0, 1) := by decide +kernel
theorem dX7_step_24 : decode cX7_step 24 = .ok (.getfield 57, 3) := by decide +kernel
theorem dX7_step_27 : decode cX7_step 27 = .ok (.iload_n 2, 1) := by decide +kernel
theorem dX7_step_28 : decode cX7_step 28 = .ok (.iload_n 3, 1) := by decide +kernel
theorem dX7_step_29 : decode cX7_step 29 = .ok (.iload 4, 2) := by decide +kernel
theorem dX7_step_31 : decode cX7_step 31 = .ok (.invokevirtual 151, 3) := by decide +kernel
theorem dX7_step_34 : decode cX7_step 34 = .ok (.istore 7, 2) := by decide +kernel
theorem dX7_step_36 : decode cX7_step 36 = .ok (.aload_n 0, 1) := by decide +kernel
theorem dX7_step_37 : decode cX7_step 37 = .ok (.getfield 15, 3) := by decide +kernel
theorem dX7_step_40 : decode cX7_step 40 = .ok (.iload_n 1, 1) := by decide +kernel
theorem dX7_step_41 : decode cX7_step 41 = .ok (.iaload, 1) := by decide +kernel
theorem dX7_step_42 : decode cX7_step 42 = .ok (.iload 7, 2) := by decide +kernel
theorem dX7_step_44 : decode cX7_step 44 = .ok (.iload 6, 2) := by decide +kernel
theorem dX7_step_46 : decode cX7_step 46 = .ok (.isub, 1) := by decide +kernel
theorem dX7_step_47 : decode cX7_step 47 = .ok (.iload 5, 2) := by decide +kernel
theorem dX7_step_49 : decode cX7_step 49 = .ok (.invokestatic 154, 3) := by decide +kernel
theorem dX7_step_52 : decode cX7_step 52 = .ok (.imul, 1) := by decide +kernel
theorem dX7_step_53 : decode cX7_step 53 = .ok (.iadd, 1) := by decide +kernel
theorem dX7_step_54 : decode cX7_step 54 = .ok (.istore 8, 2) := by decide +kernel
theorem dX7_step_56 : decode cX7_step 56 = .ok (.aload_n 0, 1) := by decide +kernel
theorem dX7_step_57 : decode cX7_step 57 = .ok (.getfield 39, 3) := by decide +kernel
theorem dX7_step_60 : decode cX7_step 60 = .ok (.getfield 65, 3) := by decide +kernel
theorem dX7_step_63 : decode cX7_step 63 = .ok (.iload 5, 2) := by decide +kernel
theorem dX7_step_65 : decode cX7_step 65 = .ok (.iload 7, 2) := by decide +kernel
theorem dX7_step_67 : decode cX7_step 67 = .ok (.iastore, 1) := by decide +kernel
theorem dX7_step_68 : decode cX7_step 68 = .ok (.aload_n 0, 1) := by decide +kernel
theorem dX7_step_69 : decode cX7_step 69 = .ok (.iload 8, 2) := by decide +kernel
theorem dX7_step_71 : decode cX7_step 71 = .ok (.invokevirtual 99, 3) := by decide +kernel
theorem dX7_step_74 : decode cX7_step 74 = .ok (.istore 9, 2) := by decide +kernel
theorem dX7_step_76 : decode cX7_step 76 = .ok (.aload_n 0, 1) := by decide +kernel
theorem dX7_step_77 : decode cX7_step 77 = .ok (.getfield 18, 3) := by decide +kernel
theorem dX7_step_80 : decode cX7_step 80 = .ok (.iload 9, 2) := by decide +kernel
theorem dX7_step_82 : decode cX7_step 82 = .ok (.iaload, 1) := by decide +kernel
theorem dX7_step_83 : decode cX7_step 83 = .ok (.bipush (-9), 2) := by decide +kernel
theorem dX7_step_85 : decode cX7_step 85 = .ok (.if_icmp .ne 19, 3) := by decide +kernel
theorem dX7_step_88 : decode cX7_step 88 = .ok (.aload_n 0, 1) := by decide +kernel
theorem dX7_step_89 : decode cX7_step 89 = .ok (.iload 8, 2) := by decide +kernel
theorem dX7_step_91 : decode cX7_step 91 = .ok (.iload 9, 2) := by decide +kernel
theorem dX7_step_93 : decode cX7_step 93 = .ok (.iload_n 1, 1) := by decide +kernel
theorem dX7_step_94 : decode cX7_step 94 = .ok (.iload_n 2, 1) := by decide +kernel
theorem dX7_step_95 : decode cX7_step 95 = .ok (.iload_n 3, 1) := by decide +kernel
theorem dX7_step_96 : decode cX7_step 96 = .ok (.iload 4, 2) := by decide +kernel
theorem dX7_step_98 : decode cX7_step 98 = .ok (.invokestatic 157, 3) := by decide +kernel
theorem dX7_step_101 : decode cX7_step 101 = .ok (.invokevirtual 103, 3) := by decide +kernel
theorem dX7_step_104 : decode cX7_step 104 = .ok (.aload_n 0, 1) := by decide +kernel
theorem dX7_step_105 : decode cX7_step 105 = .ok (.getfield 39, 3) := by decide +kernel
theorem dX7_step_108 : decode cX7_step 108 = .ok (.getfield 65, 3) := by decide +kernel
theorem dX7_step_111 : decode cX7_step 111 = .ok (.iload 5, 2) := by decide +kernel
theorem dX7_step_113 : decode cX7_step 113 = .ok (.iload 6, 2) := by decide +kernel
theorem dX7_step_115 : decode cX7_step 115 = .ok (.iastore, 1) := by decide +kernel
theorem dX7_step_116 : decode cX7_step 116 = .ok (.return_, 1) := by decide +kernel
theorem dX7_keep_0 : decode cX7_keep 0 = .ok (.aload_n 0, 1) := by decide +kernel
theorem dX7_keep_1 : decode cX7_keep 1 = .ok (.getfield 39, 3) := by decide +kernel
theorem dX7_keep_4 : decode cX7_keep 4 = .ok (.getfield 65, 3) := by decide +kernel
theorem dX7_keep_7 : decode cX7_keep 7 = .ok (.iconst 0, 1) := by decide +kernel
theorem dX7_keep_8 : decode cX7_keep 8 = .ok (.aload_n 0, 1) := by decide +kernel
theorem dX7_keep_9 : decode cX7_keep 9 = .ok (.getfield 9, 3) := by decide +kernel
theorem dX7_keep_12 : decode cX7_keep 12 = .ok (.aload_n 0, 1) := by decide +kernel
theorem dX7_keep_13 : decode cX7_keep 13 = .ok (.getfield 86, 3) := by decide +kernel
theorem dX7_keep_16 : decode cX7_keep 16 = .ok (.bipush 30, 2) := by decide +kernel
theorem dX7_keep_18 : decode cX7_keep 18 = .ok (.imul, 1) := by decide +kernel
theorem dX7_keep_19 : decode cX7_keep 19 = .ok (.bipush 30, 2) := by decide +kernel
theorem dX7_keep_21 : decode cX7_keep 21 = .ok (.invokestatic 68, 3) := by decide +kernel
theorem dX7_keep_24 : decode cX7_keep 24 = .ok (.aload_n 0, 1) := by decide +kernel
theorem dX7_keep_25 : decode cX7_keep 25 = .ok (.getfield 15, 3) := by decide +kernel
theorem dX7_keep_28 : decode cX7_keep 28 = .ok (.aload_n 0, 1) := by decide +kernel
theorem dX7_keep_29 : decode cX7_keep 29 = .ok (.getfield 86, 3) := by decide +kernel
theorem dX7_keep_32 : decode cX7_keep 32 = .ok (.iload_n 1, 1) := by decide +kernel
theorem dX7_keep_33 : decode cX7_keep 33 = .ok (.iastore, 1) := by decide +kernel
theorem dX7_keep_34 : decode cX7_keep 34 = .ok (.aload_n 0, 1) := by decide +kernel
theorem dX7_keep_35 : decode cX7_keep 35 = .ok (.getfield 21, 3) := by decide +kernel
theorem dX7_keep_38 : decode cX7_keep 38 = .ok (.aload_n 0, 1) := by decide +kernel
theorem dX7_keep_39 : decode cX7_keep 39 = .ok (.getfield 86, 3) := by decide +kernel
theorem dX7_keep_42 : decode cX7_keep 42 = .ok (.iload_n 3, 1) := by decide +kernel
theorem dX7_keep_43 : decode cX7_keep 43 = .ok (.iastore, 1) := by decide +kernel
theorem dX7_keep_44 : decode cX7_keep 44 = .ok (.aload_n 0, 1) := by decide +kernel
theorem dX7_keep_45 : decode cX7_keep 45 = .ok (.getfield 24, 3) := by decide +kernel
theorem dX7_keep_48 : decode cX7_keep 48 = .ok (.aload_n 0, 1) := by decide +kernel
theorem dX7_keep_49 : decode cX7_keep 49 = .ok (.getfield 86, 3) := by decide +kernel
theorem dX7_keep_52 : decode cX7_keep 52 = .ok (.iload 4, 2) := by decide +kernel
theorem dX7_keep_54 : decode cX7_keep 54 = .ok (.iastore, 1) := by decide +kernel
theorem dX7_keep_55 : decode cX7_keep 55 = .ok (.aload_n 0, 1) := by decide +kernel
theorem dX7_keep_56 : decode cX7_keep 56 = .ok (.getfield 18, 3) := by decide +kernel
theorem dX7_keep_59 : decode cX7_keep 59 = .ok (.iload_n 2, 1) := by decide +kernel
theorem dX7_keep_60 : decode cX7_keep 60 = .ok (.aload_n 0, 1) := by decide +kernel
theorem dX7_keep_61 : decode cX7_keep 61 = .ok (.getfield 86, 3) := by decide +kernel
theorem dX7_keep_64 : decode cX7_keep 64 = .ok (.iastore, 1) := by decide +kernel
theorem dX7_keep_65 : decode cX7_keep 65 = .ok (.aload_n 0, 1) := by decide +kernel
theorem dX7_keep_66 : decode cX7_keep 66 = .ok (.getfield 39, 3) := by decide +kernel
