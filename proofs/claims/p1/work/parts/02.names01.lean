theorem dX1_isWellFormed_4 : decode cX1_isWellFormed 4 = .ok (.iload_n 1, 1) := by decide +kernel
theorem dX1_isWellFormed_5 : decode cX1_isWellFormed 5 = .ok (.bipush 7, 2) := by decide +kernel
theorem dX1_isWellFormed_7 : decode cX1_isWellFormed 7 = .ok (.if_icmp .gt 14, 3) := by decide +kernel
theorem dX1_isWellFormed_10 : decode cX1_isWellFormed 10 = .ok (.aload_n 0, 1) := by decide +kernel
theorem dX1_isWellFormed_11 : decode cX1_isWellFormed 11 = .ok (.getfield 43, 3) := by decide +kernel
theorem dX1_isWellFormed_14 : decode cX1_isWellFormed 14 = .ok (.iload_n 2, 1) := by decide +kernel
theorem dX1_isWellFormed_15 : decode cX1_isWellFormed 15 = .ok (.invokevirtual 62, 3) := by decide +kernel
theorem dX1_isWellFormed_18 : decode cX1_isWellFormed 18 = .ok (.ifCond .ne 5, 3) := by decide +kernel
theorem dX1_isWellFormed_21 : decode cX1_isWellFormed 21 = .ok (.iconst 0, 1) := by decide +kernel
theorem dX1_isWellFormed_22 : decode cX1_isWellFormed 22 = .ok (.ireturn, 1) := by decide +kernel
theorem dX1_clearClash_0 : decode cX1_clearClash 0 = .ok (.aload_n 0, 1) := by decide +kernel
theorem dX1_clearClash_1 : decode cX1_clearClash 1 = .ok (.iconst 0, 1) := by decide +kernel
theorem dX1_clearClash_2 : decode cX1_clearClash 2 = .ok (.putfield 118, 3) := by decide +kernel
theorem dX1_clearClash_5 : decode cX1_clearClash 5 = .ok (.return_, 1) := by decide +kernel
theorem dX2_init_0 : decode cX2_init 0 = .ok (.aload_n 0, 1) := by decide +kernel
theorem dX2_init_1 : decode cX2_init 1 = .ok (.invokespecial 3, 3) := by decide +kernel
theorem dX2_init_4 : decode cX2_init 4 = .ok (.aload_n 0, 1) := by decide +kernel
theorem dX2_init_5 : decode cX2_init 5 = .ok (.bipush 100, 2) := by decide +kernel
theorem dX2_init_7 : decode cX2_init 7 = .ok (.newarray .int, 2) := by decide +kernel
theorem dX2_init_9 : decode cX2_init 9 = .ok (.putfield 9, 3) := by decide +kernel
theorem dX2_init_12 : decode cX2_init 12 = .ok (.aload_n 0, 1) := by decide +kernel
theorem dX2_init_13 : decode cX2_init 13 = .ok (.aload_n 1, 1) := by decide +kernel
theorem dX2_init_14 : decode cX2_init 14 = .ok (.putfield 15, 3) := by decide +kernel
theorem dX2_init_17 : decode cX2_init 17 = .ok (.return_, 1) := by decide +kernel
theorem dX3_init_0 : decode cX3_init 0 = .ok (.aload_n 0, 1) := by decide +kernel
theorem dX3_init_1 : decode cX3_init 1 = .ok (.invokespecial 3, 3) := by decide +kernel
theorem dX3_init_4 : decode cX3_init 4 = .ok (.aload_n 0, 1) := by decide +kernel
theorem dX3_init_5 : decode cX3_init 5 = .ok (.bipush 10, 2) := by decide +kernel
theorem dX3_init_7 : decode cX3_init 7 = .ok (.newarray .int, 2) := by decide +kernel
theorem dX3_init_9 : decode cX3_init 9 = .ok (.putfield 9, 3) := by decide +kernel
theorem dX3_init_12 : decode cX3_init 12 = .ok (.aload_n 0, 1) := by decide +kernel
theorem dX3_init_13 : decode cX3_init 13 = .ok (.bipush 10, 2) := by decide +kernel
theorem dX3_init_15 : decode cX3_init 15 = .ok (.newarray .int, 2) := by decide +kernel
theorem dX3_init_17 : decode cX3_init 17 = .ok (.putfield 15, 3) := by decide +kernel
theorem dX3_init_20 : decode cX3_init 20 = .ok (.aload_n 0, 1) := by decide +kernel
theorem dX3_init_21 : decode cX3_init 21 = .ok (.bipush 120, 2) := by decide +kernel
theorem dX3_init_23 : decode cX3_init 23 = .ok (.newarray .int, 2) := by decide +kernel
theorem dX3_init_25 : decode cX3_init 25 = .ok (.putfield 18, 3) := by decide +kernel
theorem dX3_init_28 : decode cX3_init 28 = .ok (.aload_n 0, 1) := by decide +kernel
theorem dX3_init_29 : decode cX3_init 29 = .ok (.getfield 18, 3) := by decide +kernel
theorem dX3_init_32 : decode cX3_init 32 = .ok (.bipush (-9), 2) := by decide +kernel
theorem dX3_init_34 : decode cX3_init 34 = .ok (.invokestatic 21, 3) := by decide +kernel
theorem dX3_init_37 : decode cX3_init 37 = .ok (.return_, 1) := by decide +kernel
theorem dX3_open_0 : decode cX3_open 0 = .ok (.aload_n 0, 1) := by decide +kernel
theorem dX3_open_1 : decode cX3_open 1 = .ok (.getfield 9, 3) := by decide +kernel
theorem dX3_open_4 : decode cX3_open 4 = .ok (.aload_n 0, 1) := by decide +kernel
theorem dX3_open_5 : decode cX3_open 5 = .ok (.getfield 27, 3) := by decide +kernel
theorem dX3_open_8 : decode cX3_open 8 = .ok (.iload_n 1, 1) := by decide +kernel
theorem dX3_open_9 : decode cX3_open 9 = .ok (.iastore, 1) := by decide +kernel
theorem dX3_open_10 : decode cX3_open 10 = .ok (.aload_n 0, 1) := by decide +kernel
theorem dX3_open_11 : decode cX3_open 11 = .ok (.getfield 15, 3) := by decide +kernel
theorem dX3_open_14 : decode cX3_open 14 = .ok (.aload_n 0, 1) := by decide +kernel
theorem dX3_open_15 : decode cX3_open 15 = .ok (.getfield 27, 3) := by decide +kernel
theorem dX3_open_18 : decode cX3_open 18 = .ok (.iload_n 2, 1) := by decide +kernel
theorem dX3_open_19 : decode cX3_open 19 = .ok (.iastore, 1) := by decide +kernel
theorem dX3_open_20 : decode cX3_open 20 = .ok (.aload_n 0, 1) := by decide +kernel
theorem dX3_open_21 : decode cX3_open 21 = .ok (.dup, 1) := by decide +kernel
theorem dX3_open_22 : decode cX3_open 22 = .ok (.getfield 27, 3) := by decide +kernel
theorem dX3_open_25 : decode cX3_open 25 = .ok (.dup_x1, 1) := by decide +kernel
theorem dX3_open_26 : decode cX3_open 26 = .ok (.iconst 1, 1) := by decide +kernel
theorem dX3_open_27 : decode cX3_open 27 = .ok (.iadd, 1) := by decide +kernel
theorem dX3_open_28 : decode cX3_open 28 = .ok (.putfield 27, 3) := by decide +kernel
theorem dX3_open_31 : decode cX3_open 31 = .ok (.ireturn, 1) := by decide +kernel
theorem dX4_init_0 : decode cX4_init 0 = .ok (.aload_n 0, 1) := by decide +kernel
theorem dX4_init_1 : decode cX4_init 1 = .ok (.invokespecial 3, 3) := by decide +kernel
theorem dX4_init_4 : decode cX4_init 4 = .ok (.aload_n 0, 1) := by decide +kernel
theorem dX4_init_5 : decode cX4_init 5 = .ok (.bipush 30, 2) := by decide +kernel
theorem dX4_init_7 : decode cX4_init 7 = .ok (.newarray .int, 2) := by decide +kernel
theorem dX4_init_9 : decode cX4_init 9 = .ok (.putfield 9, 3) := by decide +kernel
theorem dX4_init_12 : decode cX4_init 12 = .ok (.aload_n 0, 1) := by decide +kernel
theorem dX4_init_13 : decode cX4_init 13 = .ok (.bipush 30, 2) := by decide +kernel
theorem dX4_init_15 : decode cX4_init 15 = .ok (.newarray .int, 2) := by decide +kernel
theorem dX4_init_17 : decode cX4_init 17 = .ok (.putfield 15, 3) := by decide +kernel
theorem dX4_init_20 : decode cX4_init 20 = .ok (.aload_n 0, 1) := by decide +kernel
theorem dX4_init_21 : decode cX4_init 21 = .ok (.sipush 360, 3) := by decide +kernel
theorem dX4_init_24 : decode cX4_init 24 = .ok (.newarray .long, 2) := by decide +kernel
theorem dX4_init_26 : decode cX4_init 26 = .ok (.putfield 18, 3) := by decide +kernel
theorem dX4_init_29 : decode cX4_init 29 = .ok (.aload_n 0, 1) := by decide +kernel
theorem dX4_init_30 : decode cX4_init 30 = .ok (.getfield 9, 3) := by decide +kernel
theorem dX4_init_33 : decode cX4_init 33 = .ok (.bipush (-9), 2) := by decide +kernel
theorem dX4_init_35 : decode cX4_init 35 = .ok (.invokestatic 22, 3) := by decide +kernel
theorem dX4_init_38 : decode cX4_init 38 = .ok (.return_, 1) := by decide +kernel
theorem dX5_init_0 : decode cX5_init 0 = .ok (.aload_n 0, 1) := by decide +kernel
theorem dX5_init_1 : decode cX5_init 1 = .ok (.invokespecial 3, 3) := by decide +kernel
theorem dX5_init_4 : decode cX5_init 4 = .ok (.aload_n 0, 1) := by decide +kernel
theorem dX5_init_5 : decode cX5_init 5 = .ok (.sipush 300, 3) := by decide +kernel
theorem dX5_init_8 : decode cX5_init 8 = .ok (.newarray .int, 2) := by decide +kernel
theorem dX5_init_10 : decode cX5_init 10 = .ok (.putfield 9, 3) := by decide +kernel
theorem dX5_init_13 : decode cX5_init 13 = .ok (.aload_n 0, 1) := by decide +kernel
theorem dX5_init_14 : decode cX5_init 14 = .ok (.sipush 300, 3) := by decide +kernel
theorem dX5_init_17 : decode cX5_init 17 = .ok (.newarray .int, 2) := by decide +kernel
theorem dX5_init_19 : decode cX5_init 19 = .ok (.putfield 15, 3) := by decide +kernel
theorem dX5_init_22 : decode cX5_init 22 = .ok (.aload_n 0, 1) := by decide +kernel
theorem dX5_init_23 : decode cX5_init 23 = .ok (.sipush 300, 3) := by decide +kernel
theorem dX5_init_26 : decode cX5_init 26 = .ok (.newarray .int, 2) := by decide +kernel
theorem dX5_init_28 : decode cX5_init 28 = .ok (.putfield 18, 3) := by decide +kernel
theorem dX5_init_31 : decode cX5_init 31 = .ok (.aload_n 0, 1) := by decide +kernel
theorem dX5_init_32 : decode cX5_init 32 = .ok (.sipush 300, 3) := by decide +kernel
theorem dX5_init_35 : decode cX5_init 35 = .ok (.newarray .int, 2) := by decide +kernel
theorem dX5_init_37 : decode cX5_init 37 = .ok (.putfield 21, 3) := by decide +kernel
theorem dX5_init_40 : decode cX5_init 40 = .ok (.aload_n 0, 1) := by decide +kernel
theorem dX5_init_41 : decode cX5_init 41 = .ok (.bipush 30, 2) := by decide +kernel
theorem dX5_init_43 : decode cX5_init 43 = .ok (.newarray .int, 2) := by decide +kernel
theorem dX5_init_45 : decode cX5_init 45 = .ok (.putfield 24, 3) := by decide +kernel
theorem dX5_init_48 : decode cX5_init 48 = .ok (.aload_n 0, 1) := by decide +kernel
theorem dX5_init_49 : decode cX5_init 49 = .ok (.bipush 30, 2) := by decide +kernel
theorem dX5_init_51 : decode cX5_init 51 = .ok (.newarray .int, 2) := by decide +kernel
theorem dX5_init_53 : decode cX5_init 53 = .ok (.putfield 27, 3) := by decide +kernel
theorem dX5_init_56 : decode cX5_init 56 = .ok (.aload_n 0, 1) := by decide +kernel
theorem dX5_init_57 : decode cX5_init 57 = .ok (.bipush 30, 2) := by decide +kernel
theorem dX5_init_59 : decode cX5_init 59 = .ok (.newarray .int, 2) := by decide +kernel
theorem dX5_init_61 : decode cX5_init 61 = .ok (.putfield 30, 3) := by decide +kernel
theorem dX5_init_64 : decode cX5_init 64 = .ok (.aload_n 0, 1) := by decide +kernel
theorem dX5_init_65 : decode cX5_init 65 = .ok (.bipush 30, 2) := by decide +kernel
theorem dX5_init_67 : decode cX5_init 67 = .ok (.newarray .int, 2) := by decide +kernel
theorem dX5_init_69 : decode cX5_init 69 = .ok (.putfield 33, 3) := by decide +kernel
theorem dX5_init_72 : decode cX5_init 72 = .ok (.aload_n 0, 1) := by decide +kernel
theorem dX5_init_73 : decode cX5_init 73 = .ok (.bipush 30, 2) := by decide +kernel
theorem dX5_init_75 : decode cX5_init 75 = .ok (.newarray .int, 2) := by decide +kernel
theorem dX5_init_77 : decode cX5_init 77 = .ok (.putfield 36, 3) := by decide +kernel
theorem dX5_init_80 : decode cX5_init 80 = .ok (.aload_n 0, 1) := by decide +kernel
theorem dX5_init_81 : decode cX5_init 81 = .ok (.aload_n 1, 1) := by decide +kernel
theorem dX5_init_82 : decode cX5_init 82 = .ok (.putfield 39, 3) := by decide +kernel
theorem dX5_init_85 : decode cX5_init 85 = .ok (.aload_n 0, 1) := by decide +kernel
theorem dX5_init_86 : decode cX5_init 86 = .ok (.aload_n 2, 1) := by decide +kernel
theorem dX5_init_87 : decode cX5_init 87 = .ok (.putfield 43, 3) := by decide +kernel
theorem dX5_init_90 : decode cX5_init 90 = .ok (.aload_n 0, 1) := by decide +kernel
theorem dX5_init_91 : decode cX5_init 91 = .ok (.invokevirtual 47, 3) := by decide +kernel
theorem dX5_init_94 : decode cX5_init 94 = .ok (.return_, 1) := by decide +kernel
theorem dX5_wipe_0 : decode cX5_wipe 0 = .ok (.aload_n 0, 1) := by decide +kernel
theorem dX5_wipe_1 : decode cX5_wipe 1 = .ok (.getfield 9, 3) := by decide +kernel
theorem dX5_wipe_4 : decode cX5_wipe 4 = .ok (.bipush (-9), 2) := by decide +kernel
theorem dX5_wipe_6 : decode cX5_wipe 6 = .ok (.invokestatic 50, 3) := by decide +kernel
theorem dX5_wipe_9 : decode cX5_wipe 9 = .ok (.aload_n 0, 1) := by decide +kernel
theorem dX5_wipe_10 : decode cX5_wipe 10 = .ok (.getfield 15, 3) := by decide +kernel
theorem dX5_wipe_13 : decode cX5_wipe 13 = .ok (.bipush (-9), 2) := by decide +kernel
theorem dX5_wipe_15 : decode cX5_wipe 15 = .ok (.invokestatic 50, 3) := by decide +kernel
theorem dX5_wipe_18 : decode cX5_wipe 18 = .ok (.aload_n 0, 1) := by decide +kernel
theorem dX5_wipe_19 : decode cX5_wipe 19 = .ok (.getfield 18, 3) := by decide +kernel
theorem dX5_wipe_22 : decode cX5_wipe 22 = .ok (.bipush (-9), 2) := by decide +kernel
theorem dX5_wipe_24 : decode cX5_wipe 24 = .ok (.invokestatic 50, 3) := by decide +kernel
theorem dX5_wipe_27 : decode cX5_wipe 27 = .ok (.aload_n 0, 1) := by decide +kernel
theorem dX5_wipe_28 : decode cX5_wipe 28 = .ok (.getfield 21, 3) := by decide +kernel
theorem dX5_wipe_31 : decode cX5_wipe 31 = .ok (.iconst 0, 1) := by decide +kernel
theorem dX5_wipe_32 : decode cX5_wipe 32 = .ok (.invokestatic 50, 3) := by decide +kernel
theorem dX5_wipe_35 : decode cX5_wipe 35 = .ok (.aload_n 0, 1) := by decide +kernel
theorem dX5_wipe_36 : decode cX5_wipe 36 = .ok (.getfield 24, 3) := by decide +kernel
theorem dX5_wipe_39 : decode cX5_wipe 39 = .ok (.bipush (-9), 2) := by decide +kernel
theorem dX5_wipe_41 : decode cX5_wipe 41 = .ok (.invokestatic 50, 3) := by decide +kernel
theorem dX5_wipe_44 : decode cX5_wipe 44 = .ok (.aload_n 0, 1) := by decide +kernel
theorem dX5_wipe_45 : decode cX5_wipe 45 = .ok (.getfield 27, 3) := by decide +kernel
theorem dX5_wipe_48 : decode cX5_wipe 48 = .ok (.bipush (-9), 2) := by decide +kernel
theorem dX5_wipe_50 : decode cX5_wipe 50 = .ok (.invokestatic 50, 3) := by decide +kernel
theorem dX5_wipe_53 : decode cX5_wipe 53 = .ok (.return_, 1) := by decide +kernel
theorem dX6_init_0 : decode cX6_init 0 = .ok (.aload_n 0, 1) := by decide +kernel
theorem dX6_init_1 : decode cX6_init 1 = .ok (.invokespecial 3, 3) := by decide +kernel
theorem dX6_init_4 : decode cX6_init 4 = .ok (.aload_n 0, 1) := by decide +kernel
theorem dX6_init_5 : decode cX6_init 5 = .ok (.bipush 30, 2) := by decide +kernel
theorem dX6_init_7 : decode cX6_init 7 = .ok (.newarray .int, 2) := by decide +kernel
theorem dX6_init_9 : decode cX6_init 9 = .ok (.putfield 9, 3) := by decide +kernel
theorem dX6_init_12 : decode cX6_init 12 = .ok (.aload_n 0, 1) := by decide +kernel
theorem dX6_init_13 : decode cX6_init 13 = .ok (.aload_n 1, 1) := by decide +kernel
theorem dX6_init_14 : decode cX6_init 14 = .ok (.putfield 15, 3) := by decide +kernel
theorem dX6_init_17 : decode cX6_init 17 = .ok (.aload_n 0, 1) := by decide +kernel
theorem dX6_init_18 : decode cX6_init 18 = .ok (.getfield 9, 3) := by decide +kernel
theorem dX6_init_21 : decode cX6_init 21 = .ok (.sipush 255, 3) := by decide +kernel
theorem dX6_init_24 : decode cX6_init 24 = .ok (.invokestatic 19, 3) := by decide +kernel
theorem dX6_init_27 : decode cX6_init 27 = .ok (.return_, 1) := by decide +kernel
theorem dX8_init_0 : decode cX8_init 0 = .ok (.aload_n 0, 1) := by decide +kernel
theorem dX8_init_1 : decode cX8_init 1 = .ok (.invokespecial 3, 3) := by decide +kernel
theorem dX8_init_4 : decode cX8_init 4 = .ok (.aload_n 0, 1) := by decide +kernel
theorem dX8_init_5 : decode cX8_init 5 = .ok (.bipush 30, 2) := by decide +kernel
theorem dX8_init_7 : decode cX8_init 7 = .ok (.newarray .boolean, 2) := by decide +kernel
theorem dX8_init_9 : decode cX8_init 9 = .ok (.putfield 9, 3) := by decide +kernel
theorem dX8_init_12 : decode cX8_init 12 = .ok (.aload_n 0, 1) := by decide +kernel
theorem dX8_init_13 : decode cX8_init 13 = .ok (.bipush 30, 2) := by decide +kernel
theorem dX8_init_15 : decode cX8_init 15 = .ok (.newarray .boolean, 2) := by decide +kernel
theorem dX8_init_17 : decode cX8_init 17 = .ok (.putfield 15, 3) := by decide +kernel
theorem dX8_init_20 : decode cX8_init 20 = .ok (.aload_n 0, 1) := by decide +kernel
theorem dX8_init_21 : decode cX8_init 21 = .ok (.aload_n 1, 1) := by decide +kernel
theorem dX8_init_22 : decode cX8_init 22 = .ok (.putfield 18, 3) := by decide +kernel
theorem dX8_init_25 : decode cX8_init 25 = .ok (.aload_n 0, 1) := by decide +kernel
theorem dX8_init_26 : decode cX8_init 26 = .ok (.aload_n 2, 1) := by decide +kernel
theorem dX8_init_27 : decode cX8_init 27 = .ok (.putfield 22, 3) := by decide +kernel
theorem dX8_init_30 : decode cX8_init 30 = .ok (.aload_n 0, 1) := by decide +kernel
theorem dX8_init_31 : decode cX8_init 31 = .ok (.aload_n 3, 1) := by decide +kernel
theorem dX8_init_32 : decode cX8_init 32 = .ok (.putfield 26, 3) := by decide +kernel
theorem dX8_init_35 : decode cX8_init 35 = .ok (.return_, 1) := by decide +kernel
theorem dX9_init_0 : decode cX9_init 0 = .ok (.aload_n 0, 1) := by decide +kernel
theorem dX9_init_1 : decode cX9_init 1 = .ok (.invokespecial 3, 3) := by decide +kernel
theorem dX9_init_4 : decode cX9_init 4 = .ok (.aload_n 0, 1) := by decide +kernel
theorem dX9_init_5 : decode cX9_init 5 = .ok (.bipush 100, 2) := by decide +kernel
theorem dX9_init_7 : decode cX9_init 7 = .ok (.newarray .int, 2) := by decide +kernel
theorem dX9_init_9 : decode cX9_init 9 = .ok (.putfield 9, 3) := by decide +kernel
theorem dX9_init_12 : decode cX9_init 12 = .ok (.aload_n 0, 1) := by decide +kernel
theorem dX9_init_13 : decode cX9_init 13 = .ok (.bipush 100, 2) := by decide +kernel
theorem dX9_init_15 : decode cX9_init 15 = .ok (.newarray .int, 2) := by decide +kernel
theorem dX9_init_17 : decode cX9_init 17 = .ok (.putfield 15, 3) := by decide +kernel
theorem dX9_init_20 : decode cX9_init 20 = .ok (.aload_n 0, 1) := by decide +kernel
theorem dX9_init_21 : decode cX9_init 21 = .ok (.bipush 100, 2) := by decide +kernel
theorem dX9_init_23 : decode cX9_init 23 = .ok (.newarray .int, 2) := by decide +kernel
theorem dX9_init_25 : decode cX9_init 25 = .ok (.putfield 18, 3) := by decide +kernel
theorem dX9_init_28 : decode cX9_init 28 = .ok (.aload_n 0, 1) := by decide +kernel
theorem dX9_init_29 : decode cX9_init 29 = .ok (.aload_n 1, 1) := by decide +kernel
theorem dX9_init_30 : decode cX9_init 30 = .ok (.putfield 21, 3) := by decide +kernel
theorem dX9_init_33 : decode cX9_init 33 = .ok (.aload_n 0, 1) := by decide +kernel
theorem dX9_init_34 : decode cX9_init 34 = .ok (.aload_n 2, 1) := by decide +kernel
theorem dX9_init_35 : decode cX9_init 35 = .ok (.putfield 25, 3) := by decide +kernel
theorem dX9_init_38 : decode cX9_init 38 = .ok (.aload_n 0, 1) := by decide +kernel
theorem dX9_init_39 : decode cX9_init 39 = .ok (.new 29, 3) := by decide +kernel
theorem dX9_init_42 : decode cX9_init 42 = .ok (.dup, 1) := by decide +kernel
theorem dX9_init_43 : decode cX9_init 43 = .ok (.aload_n 1, 1) := by decide +kernel
theorem dX9_init_44 : decode cX9_init 44 = .ok (.invokespecial 31, 3) := by decide +kernel
theorem dX9_init_47 : decode cX9_init 47 = .ok (.putfield 34, 3) := by decide +kernel
theorem dX9_init_50 : decode cX9_init 50 = .ok (.aload_n 0, 1) := by decide +kernel
theorem dX9_init_51 : decode cX9_init 51 = .ok (.new 38, 3) := by decide +kernel
theorem dX9_init_54 : decode cX9_init 54 = .ok (.dup, 1) := by decide +kernel
theorem dX9_init_55 : decode cX9_init 55 = .ok (.aload_n 1, 1) := by decide +kernel
theorem dX9_init_56 : decode cX9_init 56 = .ok (.aload_n 3, 1) := by decide +kernel
theorem dX9_init_57 : decode cX9_init 57 = .ok (.aload_n 0, 1) := by decide +kernel
theorem dX9_init_58 : decode cX9_init 58 = .ok (.getfield 34, 3) := by decide +kernel
theorem dX9_init_61 : decode cX9_init 61 = .ok (.invokespecial 40, 3) := by decide +kernel
theorem dX9_init_64 : decode cX9_init 64 = .ok (.putfield 43, 3) := by decide +kernel
theorem dX9_init_67 : decode cX9_init 67 = .ok (.aload_n 0, 1) := by decide +kernel
theorem dX9_init_68 : decode cX9_init 68 = .ok (.new 47, 3) := by decide +kernel
theorem dX9_init_71 : decode cX9_init 71 = .ok (.dup, 1) := by decide +kernel
theorem dX9_init_72 : decode cX9_init 72 = .ok (.aload_n 1, 1) := by decide +kernel
theorem dX9_init_73 : decode cX9_init 73 = .ok (.aload_n 2, 1) := by decide +kernel
theorem dX9_init_74 : decode cX9_init 74 = .ok (.aload_n 3, 1) := by decide +kernel
theorem dX9_init_75 : decode cX9_init 75 = .ok (.aload 4, 2) := by decide +kernel
theorem dX9_init_77 : decode cX9_init 77 = .ok (.aload_n 0, 1) := by decide +kernel
theorem dX9_init_78 : decode cX9_init 78 = .ok (.getfield 43, 3) := by decide +kernel
theorem dX9_init_81 : decode cX9_init 81 = .ok (.invokespecial 49, 3) := by decide +kernel
theorem dX9_init_84 : decode cX9_init 84 = .ok (.putfield 52, 3) := by decide +kernel
theorem dX9_init_87 : decode cX9_init 87 = .ok (.aload_n 0, 1) := by decide +kernel
theorem dX9_init_88 : decode cX9_init 88 = .ok (.bipush (-9), 2) := by decide +kernel
theorem dX9_init_90 : decode cX9_init 90 = .ok (.putfield 56, 3) := by decide +kernel
theorem dX9_init_93 : decode cX9_init 93 = .ok (.return_, 1) := by decide +kernel
theorem dX9_end_0 : decode cX9_end 0 = .ok (.aload_n 0, 1) := by decide +kernel
theorem dX9_end_1 : decode cX9_end 1 = .ok (.iconst 0, 1) := by decide +kernel
theorem dX9_end_2 : decode cX9_end 2 = .ok (.putfield 72, 3) := by decide +kernel
theorem dX9_end_5 : decode cX9_end 5 = .ok (.aload_n 0, 1) := by decide +kernel
theorem dX9_end_6 : decode cX9_end 6 = .ok (.iconst 0, 1) := by decide +kernel
theorem dX9_end_7 : decode cX9_end 7 = .ok (.putfield 77, 3) := by decide +kernel
theorem dX9_end_10 : decode cX9_end 10 = .ok (.return_, 1) := by decide +kernel
theorem dX9_isAct_0 : decode cX9_isAct 0 = .ok (.iload_n 1, 1) := by decide +kernel
theorem dX9_isAct_1 : decode cX9_isAct 1 = .ok (.ifCond .lt 9, 3) := by decide +kernel
theorem dX9_isAct_4 : decode cX9_isAct 4 = .ok (.iload_n 1, 1) := by decide +kernel
theorem dX9_isAct_5 : decode cX9_isAct 5 = .ok (.bipush 12, 2) := by decide +kernel
theorem dX9_isAct_7 : decode cX9_isAct 7 = .ok (.if_icmp .le 5, 3) := by decide +kernel
theorem dX9_isAct_10 : decode cX9_isAct 10 = .ok (.iconst 0, 1) := by decide +kernel
theorem dX9_isAct_11 : decode cX9_isAct 11 = .ok (.ireturn, 1) := by decide +kernel
theorem dX9_isAct_12 : decode cX9_isAct 12 = .ok (.iload_n 1, 1) := by decide +kernel
theorem dX9_isAct_13 : decode cX9_isAct 13 = .ok (.ifCond .ne 10, 3) := by decide +kernel
theorem dX9_isAct_16 : decode cX9_isAct 16 = .ok (.iload_n 2, 1) := by decide +kernel
theorem dX9_isAct_17 : decode cX9_isAct 17 = .ok (.bipush 10, 2) := by decide +kernel
theorem dX9_isAct_19 : decode cX9_isAct 19 = .ok (.invokestatic 101, 3) := by decide +kernel
theorem dX9_isAct_22 : decode cX9_isAct 22 = .ok (.ireturn, 1) := by decide +kernel
theorem dX9_isAct_23 : decode cX9_isAct 23 = .ok (.iload_n 1, 1) := by decide +kernel
theorem dX9_isAct_24 : decode cX9_isAct 24 = .ok (.invokestatic 104, 3) := by decide +kernel
theorem dX9_isAct_27 : decode cX9_isAct 27 = .ok (.ifCond .eq 14, 3) := by decide +kernel
theorem dX9_isAct_30 : decode cX9_isAct 30 = .ok (.aload_n 0, 1) := by decide +kernel
theorem dX9_isAct_31 : decode cX9_isAct 31 = .ok (.getfield 21, 3) := by decide +kernel
theorem dX9_isAct_34 : decode cX9_isAct 34 = .ok (.iload_n 2, 1) := by decide +kernel
theorem dX9_isAct_35 : decode cX9_isAct 35 = .ok (.invokevirtual 108, 3) := by decide +kernel
theorem dX9_isAct_38 : decode cX9_isAct 38 = .ok (.ifCond .eq 25, 3) := by decide +kernel
theorem dX9_isAct_41 : decode cX9_isAct 41 = .ok (.iload_n 1, 1) := by decide +kernel
theorem dX9_isAct_42 : decode cX9_isAct 42 = .ok (.invokestatic 111, 3) := by decide +kernel
theorem dX9_isAct_45 : decode cX9_isAct 45 = .ok (.ifCond .eq 14, 3) := by decide +kernel
theorem dX9_isAct_48 : decode cX9_isAct 48 = .ok (.aload_n 0, 1) := by decide +kernel
theorem dX9_isAct_49 : decode cX9_isAct 49 = .ok (.getfield 21, 3) := by decide +kernel
theorem dX9_isAct_52 : decode cX9_isAct 52 = .ok (.iload_n 3, 1) := by decide +kernel
theorem dX9_isAct_53 : decode cX9_isAct 53 = .ok (.invokevirtual 108, 3) := by decide +kernel
theorem dX9_isAct_56 : decode cX9_isAct 56 = .ok (.ifCond .eq 7, 3) := by decide +kernel
theorem dX9_isAct_59 : decode cX9_isAct 59 = .ok (.iconst 1, 1) := by decide +kernel
theorem dX9_isAct_60 : decode cX9_isAct 60 = .ok (.goto 4, 3) := by decide +kernel
theorem dX9_isAct_63 : decode cX9_isAct 63 = .ok (.iconst 0, 1) := by decide +kernel
theorem dX9_isAct_64 : decode cX9_isAct 64 = .ok (.ireturn, 1) := by decide +kernel
theorem dX10_init_0 : decode cX10_init 0 = .ok (.aload_n 0, 1) := by decide +kernel
theorem dX10_init_1 : decode cX10_init 1 = .ok (.invokespecial 3, 3) := by decide +kernel
theorem dX10_init_4 : decode cX10_init 4 = .ok (.aload_n 0, 1) := by decide +kernel
theorem dX10_init_5 : decode cX10_init 5 = .ok (.bipush 24, 2) := by decide +kernel
theorem dX10_init_7 : decode cX10_init 7 = .ok (.newarray .int, 2) := by decide +kernel
theorem dX10_init_9 : decode cX10_init 9 = .ok (.putfield 9, 3) := by decide +kernel
theorem dX10_init_12 : decode cX10_init 12 = .ok (.aload_n 0, 1) := by decide +kernel
theorem dX10_init_13 : decode cX10_init 13 = .ok (.bipush 24, 2) := by decide +kernel
theorem dX10_init_15 : decode cX10_init 15 = .ok (.newarray .int, 2) := by decide +kernel
theorem dX10_init_17 : decode cX10_init 17 = .ok (.putfield 15, 3) := by decide +kernel
theorem dX10_init_20 : decode cX10_init 20 = .ok (.aload_n 0, 1) := by decide +kernel
theorem dX10_init_21 : decode cX10_init 21 = .ok (.sipush 144, 3) := by decide +kernel
theorem dX10_init_24 : decode cX10_init 24 = .ok (.newarray .int, 2) := by decide +kernel
theorem dX10_init_26 : decode cX10_init 26 = .ok (.putfield 18, 3) := by decide +kernel
theorem dX10_init_29 : decode cX10_init 29 = .ok (.aload_n 0, 1) := by decide +kernel
theorem dX10_init_30 : decode cX10_init 30 = .ok (.bipush 30, 2) := by decide +kernel
theorem dX10_init_32 : decode cX10_init 32 = .ok (.newarray .int, 2) := by decide +kernel
theorem dX10_init_34 : decode cX10_init 34 = .ok (.putfield 21, 3) := by decide +kernel
theorem dX10_init_37 : decode cX10_init 37 = .ok (.aload_n 0, 1) := by decide +kernel
theorem dX10_init_38 : decode cX10_init 38 = .ok (.bipush 30, 2) := by decide +kernel
theorem dX10_init_40 : decode cX10_init 40 = .ok (.newarray .int, 2) := by decide +kernel
theorem dX10_init_42 : decode cX10_init 42 = .ok (.putfield 24, 3) := by decide +kernel
theorem dX10_init_45 : decode cX10_init 45 = .ok (.aload_n 0, 1) := by decide +kernel
theorem dX10_init_46 : decode cX10_init 46 = .ok (.getfield 18, 3) := by decide +kernel
theorem dX10_init_49 : decode cX10_init 49 = .ok (.bipush (-9), 2) := by decide +kernel
theorem dX10_init_51 : decode cX10_init 51 = .ok (.invokestatic 27, 3) := by decide +kernel
theorem dX10_init_54 : decode cX10_init 54 = .ok (.iconst 0, 1) := by decide +kernel
theorem dX10_init_55 : decode cX10_init 55 = .ok (.istore_n 1, 1) := by decide +kernel
theorem dX10_init_56 : decode cX10_init 56 = .ok (.iload_n 1, 1) := by decide +kernel
theorem dX10_init_57 : decode cX10_init 57 = .ok (.iconst 5, 1) := by decide +kernel
theorem dX10_init_58 : decode cX10_init 58 = .ok (.if_icmp .gt 33, 3) := by decide +kernel
theorem dX10_init_61 : decode cX10_init 61 = .ok (.aload_n 0, 1) := by decide +kernel
theorem dX10_init_62 : decode cX10_init 62 = .ok (.getfield 9, 3) := by decide +kernel
theorem dX10_init_65 : decode cX10_init 65 = .ok (.iload_n 1, 1) := by decide +kernel
theorem dX10_init_66 : decode cX10_init 66 = .ok (.iload_n 1, 1) := by decide +kernel
theorem dX10_init_67 : decode cX10_init 67 = .ok (.iconst 1, 1) := by decide +kernel
theorem dX10_init_68 : decode cX10_init 68 = .ok (.if_icmp .gt 8, 3) := by decide +kernel
theorem dX10_init_71 : decode cX10_init 71 = .ok (.bipush (-9), 2) := by decide +kernel
theorem dX10_init_73 : decode cX10_init 73 = .ok (.goto 4, 3) := by decide +kernel
theorem dX10_init_76 : decode cX10_init 76 = .ok (.iconst 1, 1) := by decide +kernel
theorem dX10_init_77 : decode cX10_init 77 = .ok (.iastore, 1) := by decide +kernel
theorem dX10_init_78 : decode cX10_init 78 = .ok (.aload_n 0, 1) := by decide +kernel
theorem dX10_init_79 : decode cX10_init 79 = .ok (.getfield 15, 3) := by decide +kernel
theorem dX10_init_82 : decode cX10_init 82 = .ok (.iload_n 1, 1) := by decide +kernel
theorem dX10_init_83 : decode cX10_init 83 = .ok (.iload_n 1, 1) := by decide +kernel
theorem dX10_init_84 : decode cX10_init 84 = .ok (.iastore, 1) := by decide +kernel
theorem dX10_init_85 : decode cX10_init 85 = .ok (.iinc 1 1, 3) := by decide +kernel
theorem dX10_init_88 : decode cX10_init 88 = .ok (.goto (-32), 3) := by decide +kernel
theorem dX10_init_91 : decode cX10_init 91 = .ok (.aload_n 0, 1) := by decide +kernel
theorem dX10_init_92 : decode cX10_init 92 = .ok (.bipush 6, 2) := by decide +kernel
theorem dX10_init_94 : decode cX10_init 94 = .ok (.putfield 33, 3) := by decide +kernel
theorem dX10_init_97 : decode cX10_init 97 = .ok (.return_, 1) := by decide +kernel
theorem dX10_hasKind_0 : decode cX10_hasKind 0 = .ok (.iload_n 1, 1) := by decide +kernel
theorem dX10_hasKind_1 : decode cX10_hasKind 1 = .ok (.ifCond .lt 15, 3) := by decide +kernel
theorem dX10_hasKind_4 : decode cX10_hasKind 4 = .ok (.iload_n 1, 1) := by decide +kernel
theorem dX10_hasKind_5 : decode cX10_hasKind 5 = .ok (.aload_n 0, 1) := by decide +kernel
theorem dX10_hasKind_6 : decode cX10_hasKind 6 = .ok (.getfield 33, 3) := by decide +kernel
theorem dX10_hasKind_9 : decode cX10_hasKind 9 = .ok (.if_icmp .ge 7, 3) := by decide +kernel
theorem dX10_hasKind_12 : decode cX10_hasKind 12 = .ok (.iconst 1, 1) := by decide +kernel
theorem dX10_hasKind_13 : decode cX10_hasKind 13 = .ok (.goto 4, 3) := by decide +kernel
theorem dX10_hasKind_16 : decode cX10_hasKind 16 = .ok (.iconst 0, 1) := by decide +kernel
theorem dX10_hasKind_17 : decode cX10_hasKind 17 = .ok (.ireturn, 1) := by decide +kernel
theorem dX10_hasObject_0 : decode cX10_hasObject 0 = .ok (.iload_n 1, 1) := by decide +kernel
theorem dX10_hasObject_1 : decode cX10_hasObject 1 = .ok (.ifCond .lt 15, 3) := by decide +kernel
theorem dX10_hasObject_4 : decode cX10_hasObject 4 = .ok (.iload_n 1, 1) := by decide +kernel
theorem dX10_hasObject_5 : decode cX10_hasObject 5 = .ok (.aload_n 0, 1) := by decide +kernel
theorem dX10_hasObject_6 : decode cX10_hasObject 6 = .ok (.getfield 37, 3) := by decide +kernel
theorem dX10_hasObject_9 : decode cX10_hasObject 9 = .ok (.if_icmp .ge 7, 3) := by decide +kernel
theorem dX10_hasObject_12 : decode cX10_hasObject 12 = .ok (.iconst 1, 1) := by decide +kernel
theorem dX10_hasObject_13 : decode cX10_hasObject 13 = .ok (.goto 4, 3) := by decide +kernel
theorem dX10_hasObject_16 : decode cX10_hasObject 16 = .ok (.iconst 0, 1) := by decide +kernel
theorem dX10_hasObject_17 : decode cX10_hasObject 17 = .ok (.ireturn, 1) := by decide +kernel
theorem dX10_addKind_0 : decode cX10_addKind 0 = .ok (.aload_n 0, 1) := by decide +kernel
theorem dX10_addKind_1 : decode cX10_addKind 1 = .ok (.getfield 9, 3) := by decide +kernel
theorem dX10_addKind_4 : decode cX10_addKind 4 = .ok (.aload_n 0, 1) := by decide +kernel
theorem dX10_addKind_5 : decode cX10_addKind 5 = .ok (.getfield 33, 3) := by decide +kernel
theorem dX10_addKind_8 : decode cX10_addKind 8 = .ok (.iload_n 1, 1) := by decide +kernel
theorem dX10_addKind_9 : decode cX10_addKind 9 = .ok (.iastore, 1) := by decide +kernel
theorem dX10_addKind_10 : decode cX10_addKind 10 = .ok (.aload_n 0, 1) := by decide +kernel
theorem dX10_addKind_11 : decode cX10_addKind 11 = .ok (.getfield 15, 3) := by decide +kernel
theorem dX10_addKind_14 : decode cX10_addKind 14 = .ok (.aload_n 0, 1) := by decide +kernel
theorem dX10_addKind_15 : decode cX10_addKind 15 = .ok (.getfield 33, 3) := by decide +kernel
theorem dX10_addKind_18 : decode cX10_addKind 18 = .ok (.aload_n 0, 1) := by decide +kernel
theorem dX10_addKind_19 : decode cX10_addKind 19 = .ok (.getfield 15, 3) := by decide +kernel
theorem dX10_addKind_22 : decode cX10_addKind 22 = .ok (.iload_n 1, 1) := by decide +kernel
theorem dX10_addKind_23 : decode cX10_addKind 23 = .ok (.iaload, 1) := by decide +kernel
theorem dX10_addKind_24 : decode cX10_addKind 24 = .ok (.iastore, 1) := by decide +kernel
theorem dX10_addKind_25 : decode cX10_addKind 25 = .ok (.aload_n 0, 1) := by decide +kernel
theorem dX10_addKind_26 : decode cX10_addKind 26 = .ok (.dup, 1) := by decide +kernel
theorem dX10_addKind_27 : decode cX10_addKind 27 = .ok (.getfield 33, 3) := by decide +kernel
theorem dX10_addKind_30 : decode cX10_addKind 30 = .ok (.dup_x1, 1) := by decide +kernel
theorem dX10_addKind_31 : decode cX10_addKind 31 = .ok (.iconst 1, 1) := by decide +kernel
theorem dX10_addKind_32 : decode cX10_addKind 32 = .ok (.iadd, 1) := by decide +kernel
theorem dX10_addKind_33 : decode cX10_addKind 33 = .ok (.putfield 33, 3) := by decide +kernel
theorem dX10_addKind_36 : decode cX10_addKind 36 = .ok (.ireturn, 1) := by decide +kernel
theorem dX10_addObject_0 : decode cX10_addObject 0 = .ok (.aload_n 0, 1) := by decide +kernel
theorem dX10_addObject_1 : decode cX10_addObject 1 = .ok (.getfield 21, 3) := by decide +kernel
theorem dX10_addObject_4 : decode cX10_addObject 4 = .ok (.aload_n 0, 1) := by decide +kernel
theorem dX10_addObject_5 : decode cX10_addObject 5 = .ok (.getfield 37, 3) := by decide +kernel
theorem dX10_addObject_8 : decode cX10_addObject 8 = .ok (.iload_n 1, 1) := by decide +kernel
theorem dX10_addObject_9 : decode cX10_addObject 9 = .ok (.iastore, 1) := by decide +kernel
theorem dX10_addObject_10 : decode cX10_addObject 10 = .ok (.aload_n 0, 1) := by decide +kernel
theorem dX10_addObject_11 : decode cX10_addObject 11 = .ok (.getfield 24, 3) := by decide +kernel
theorem dX10_addObject_14 : decode cX10_addObject 14 = .ok (.aload_n 0, 1) := by decide +kernel
theorem dX10_addObject_15 : decode cX10_addObject 15 = .ok (.getfield 37, 3) := by decide +kernel
theorem dX10_addObject_18 : decode cX10_addObject 18 = .ok (.iload_n 2, 1) := by decide +kernel
theorem dX10_addObject_19 : decode cX10_addObject 19 = .ok (.iastore, 1) := by decide +kernel
theorem dX10_addObject_20 : decode cX10_addObject 20 = .ok (.aload_n 0, 1) := by decide +kernel
theorem dX10_addObject_21 : decode cX10_addObject 21 = .ok (.dup, 1) := by decide +kernel
theorem dX10_addObject_22 : decode cX10_addObject 22 = .ok (.getfield 37, 3) := by decide +kernel
theorem dX10_addObject_25 : decode cX10_addObject 25 = .ok (.dup_x1, 1) := by decide +kernel
theorem dX10_addObject_26 : decode cX10_addObject 26 = .ok (.iconst 1, 1) := by decide +kernel
theorem dX10_addObject_27 : decode cX10_addObject 27 = .ok (.iadd, 1) := by decide +kernel
theorem dX10_addObject_28 : decode cX10_addObject 28 = .ok (.putfield 37, 3) := by decide +kernel
theorem dX10_addObject_31 : decode cX10_addObject 31 = .ok (.ireturn, 1) := by decide +kernel
theorem dX10_changeStandard_0 : decode cX10_changeStandard 0 = .ok (.aload_n 0, 1) := by decide +kernel
theorem dX10_changeStandard_1 : decode cX10_changeStandard 1 = .ok (.getfield 18, 3) := by decide +kernel
theorem dX10_changeStandard_4 : decode cX10_changeStandard 4 = .ok (.iload_n 1, 1) := by decide +kernel
theorem dX10_changeStandard_5 : decode cX10_changeStandard 5 = .ok (.bipush 6, 2) := by decide +kernel
theorem dX10_changeStandard_7 : decode cX10_changeStandard 7 = .ok (.imul, 1) := by decide +kernel
theorem dX10_changeStandard_8 : decode cX10_changeStandard 8 = .ok (.iload_n 2, 1) := by decide +kernel
theorem dX10_changeStandard_9 : decode cX10_changeStandard 9 = .ok (.iadd, 1) := by decide +kernel
theorem dX10_changeStandard_10 : decode cX10_changeStandard 10 = .ok (.iaload, 1) := by decide +kernel
theorem dX10_changeStandard_11 : decode cX10_changeStandard 11 = .ok (.istore 4, 2) := by decide +kernel
theorem dX10_changeStandard_13 : decode cX10_changeStandard 13 = .ok (.aload_n 0, 1) := by decide +kernel
theorem dX10_changeStandard_14 : decode cX10_changeStandard 14 = .ok (.getfield 18, 3) := by decide +kernel
theorem dX10_changeStandard_17 : decode cX10_changeStandard 17 = .ok (.iload_n 1, 1) := by decide +kernel
theorem dX10_changeStandard_18 : decode cX10_changeStandard 18 = .ok (.bipush 6, 2) := by decide +kernel
theorem dX10_changeStandard_20 : decode cX10_changeStandard 20 = .ok (.imul, 1) := by decide +kernel
theorem dX10_changeStandard_21 : decode cX10_changeStandard 21 = .ok (.iload_n 2, 1) := by decide +kernel
theorem dX10_changeStandard_22 : decode cX10_changeStandard 22 = .ok (.iadd, 1) := by decide +kernel
theorem dX10_changeStandard_23 : decode cX10_changeStandard 23 = .ok (.iload_n 3, 1) := by decide +kernel
theorem dX10_changeStandard_24 : decode cX10_changeStandard 24 = .ok (.iastore, 1) := by decide +kernel
theorem dX10_changeStandard_25 : decode cX10_changeStandard 25 = .ok (.iload 4, 2) := by decide +kernel
theorem dX10_changeStandard_27 : decode cX10_changeStandard 27 = .ok (.ireturn, 1) := by decide +kernel
theorem dX11_init_0 : decode cX11_init 0 = .ok (.aload_n 0, 1) := by decide +kernel
theorem dX11_init_1 : decode cX11_init 1 = .ok (.invokespecial 1, 3) := by decide +kernel
theorem dX11_init_4 : decode cX11_init 4 = .ok (.aload_n 0, 1) := by decide +kernel
theorem dX11_init_5 : decode cX11_init 5 = .ok (.new 7, 3) := by decide +kernel
theorem dX11_init_8 : decode cX11_init 8 = .ok (.dup, 1) := by decide +kernel
theorem dX11_init_9 : decode cX11_init 9 = .ok (.invokespecial 9, 3) := by decide +kernel
theorem dX11_init_12 : decode cX11_init 12 = .ok (.putfield 10, 3) := by decide +kernel
theorem dX11_init_15 : decode cX11_init 15 = .ok (.aload_n 0, 1) := by decide +kernel
theorem dX11_init_16 : decode cX11_init 16 = .ok (.new 16, 3) := by decide +kernel
theorem dX11_init_19 : decode cX11_init 19 = .ok (.dup, 1) := by decide +kernel
theorem dX11_init_20 : decode cX11_init 20 = .ok (.aload_n 0, 1) := by decide +kernel
theorem dX11_init_21 : decode cX11_init 21 = .ok (.getfield 10, 3) := by decide +kernel
theorem dX11_init_24 : decode cX11_init 24 = .ok (.invokespecial 18, 3) := by decide +kernel
theorem dX11_init_27 : decode cX11_init 27 = .ok (.putfield 21, 3) := by decide +kernel
theorem dX11_init_30 : decode cX11_init 30 = .ok (.aload_n 0, 1) := by decide +kernel
theorem dX11_init_31 : decode cX11_init 31 = .ok (.new 25, 3) := by decide +kernel
theorem dX11_init_34 : decode cX11_init 34 = .ok (.dup, 1) := by decide +kernel
theorem dX11_init_35 : decode cX11_init 35 = .ok (.aload_n 0, 1) := by decide +kernel
theorem dX11_init_36 : decode cX11_init 36 = .ok (.getfield 10, 3) := by decide +kernel
theorem dX11_init_39 : decode cX11_init 39 = .ok (.aload_n 0, 1) := by decide +kernel
theorem dX11_init_40 : decode cX11_init 40 = .ok (.getfield 21, 3) := by decide +kernel
theorem dX11_init_43 : decode cX11_init 43 = .ok (.invokespecial 27, 3) := by decide +kernel
theorem dX11_init_46 : decode cX11_init 46 = .ok (.putfield 30, 3) := by decide +kernel
theorem dX11_init_49 : decode cX11_init 49 = .ok (.aload_n 0, 1) := by decide +kernel
theorem dX11_init_50 : decode cX11_init 50 = .ok (.new 34, 3) := by decide +kernel
theorem dX11_init_53 : decode cX11_init 53 = .ok (.dup, 1) := by decide +kernel
theorem dX11_init_54 : decode cX11_init 54 = .ok (.aload_n 0, 1) := by decide +kernel
theorem dX11_init_55 : decode cX11_init 55 = .ok (.getfield 10, 3) := by decide +kernel
theorem dX11_init_58 : decode cX11_init 58 = .ok (.invokespecial 36, 3) := by decide +kernel
theorem dX11_init_61 : decode cX11_init 61 = .ok (.putfield 37, 3) := by decide +kernel
theorem dX11_init_64 : decode cX11_init 64 = .ok (.aload_n 0, 1) := by decide +kernel
theorem dX11_init_65 : decode cX11_init 65 = .ok (.new 41, 3) := by decide +kernel
theorem dX11_init_68 : decode cX11_init 68 = .ok (.dup, 1) := by decide +kernel
theorem dX11_init_69 : decode cX11_init 69 = .ok (.aload_n 0, 1) := by decide +kernel
theorem dX11_init_70 : decode cX11_init 70 = .ok (.getfield 10, 3) := by decide +kernel
theorem dX11_init_73 : decode cX11_init 73 = .ok (.aload_n 0, 1) := by decide +kernel
theorem dX11_init_74 : decode cX11_init 74 = .ok (.getfield 21, 3) := by decide +kernel
theorem dX11_init_77 : decode cX11_init 77 = .ok (.aload_n 0, 1) := by decide +kernel
theorem dX11_init_78 : decode cX11_init 78 = .ok (.getfield 30, 3) := by decide +kernel
theorem dX11_init_81 : decode cX11_init 81 = .ok (.aload_n 0, 1) := by decide +kernel
theorem dX11_init_82 : decode cX11_init 82 = .ok (.getfield 37, 3) := by decide +kernel
theorem dX11_init_85 : decode cX11_init 85 = .ok (.invokespecial 43, 3) := by decide +kernel
theorem dX11_init_88 : decode cX11_init 88 = .ok (.putfield 46, 3) := by decide +kernel
theorem dX11_init_91 : decode cX11_init 91 = .ok (.aload_n 0, 1) := by decide +kernel
theorem dX11_init_92 : decode cX11_init 92 = .ok (.new 50, 3) := by decide +kernel
theorem dX11_init_95 : decode cX11_init 95 = .ok (.dup, 1) := by decide +kernel
theorem dX11_init_96 : decode cX11_init 96 = .ok (.invokespecial 52, 3) := by decide +kernel
theorem dX11_init_99 : decode cX11_init 99 = .ok (.putfield 53, 3) := by decide +kernel
theorem dX11_init_102 : decode cX11_init 102 = .ok (.aload_n 0, 1) := by decide +kernel
