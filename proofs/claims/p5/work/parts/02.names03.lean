theorem dX1_isFlagClashing_79 : decode cX1_isFlagClashing 79 = .ok (.ifCond .eq 7, 3) := by decide +kernel
theorem dX1_isFlagClashing_82 : decode cX1_isFlagClashing 82 = .ok (.iconst 1, 1) := by decide +kernel
theorem dX1_isFlagClashing_83 : decode cX1_isFlagClashing 83 = .ok (.goto 45, 3) := by decide +kernel
theorem dX1_isFlagClashing_86 : decode cX1_isFlagClashing 86 = .ok (.iconst 0, 1) := by decide +kernel
theorem dX1_isFlagClashing_87 : decode cX1_isFlagClashing 87 = .ok (.goto 41, 3) := by decide +kernel
theorem dX1_isFlagClashing_90 : decode cX1_isFlagClashing 90 = .ok (.iload_n 3, 1) := by decide +kernel
theorem dX1_isFlagClashing_91 : decode cX1_isFlagClashing 91 = .ok (.ifCond .ne 32, 3) := by decide +kernel
theorem dX1_isFlagClashing_94 : decode cX1_isFlagClashing 94 = .ok (.aload_n 0, 1) := by decide +kernel
theorem dX1_isFlagClashing_95 : decode cX1_isFlagClashing 95 = .ok (.getfield 52, 3) := by decide +kernel
theorem dX1_isFlagClashing_98 : decode cX1_isFlagClashing 98 = .ok (.iload_n 1, 1) := by decide +kernel
theorem dX1_isFlagClashing_99 : decode cX1_isFlagClashing 99 = .ok (.invokevirtual 149, 3) := by decide +kernel
theorem dX1_isFlagClashing_102 : decode cX1_isFlagClashing 102 = .ok (.iconst 3, 1) := by decide +kernel
theorem dX1_isFlagClashing_103 : decode cX1_isFlagClashing 103 = .ok (.if_icmp .ne 20, 3) := by decide +kernel
theorem dX1_isFlagClashing_106 : decode cX1_isFlagClashing 106 = .ok (.aload_n 0, 1) := by decide +kernel
theorem dX1_isFlagClashing_107 : decode cX1_isFlagClashing 107 = .ok (.aload_n 0, 1) := by decide +kernel
theorem dX1_isFlagClashing_108 : decode cX1_isFlagClashing 108 = .ok (.getfield 28, 3) := by decide +kernel
theorem dX1_isFlagClashing_111 : decode cX1_isFlagClashing 111 = .ok (.iload_n 1, 1) := by decide +kernel
theorem dX1_isFlagClashing_112 : decode cX1_isFlagClashing 112 = .ok (.iaload, 1) := by decide +kernel
theorem dX1_isFlagClashing_113 : decode cX1_isFlagClashing 113 = .ok (.invokevirtual 121, 3) := by decide +kernel
theorem dX1_isFlagClashing_116 : decode cX1_isFlagClashing 116 = .ok (.ifCond .eq 7, 3) := by decide +kernel
theorem dX1_isFlagClashing_119 : decode cX1_isFlagClashing 119 = .ok (.iconst 1, 1) := by decide +kernel
theorem dX1_isFlagClashing_120 : decode cX1_isFlagClashing 120 = .ok (.goto 8, 3) := by decide +kernel
theorem dX1_isFlagClashing_123 : decode cX1_isFlagClashing 123 = .ok (.iconst 0, 1) := by decide +kernel
theorem dX1_isFlagClashing_124 : decode cX1_isFlagClashing 124 = .ok (.goto 4, 3) := by decide +kernel
theorem dX1_isFlagClashing_127 : decode cX1_isFlagClashing 127 = .ok (.iconst 0, 1) := by decide +kernel
theorem dX1_isFlagClashing_128 : decode cX1_isFlagClashing 128 = .ok (.ireturn, 1) := by decide +kernel
theorem dX1_saying_0 : decode cX1_saying 0 = .ok (.aload_n 0, 1) := by decide +kernel
theorem dX1_saying_1 : decode cX1_saying 1 = .ok (.getfield 34, 3) := by decide +kernel
theorem dX1_saying_4 : decode cX1_saying 4 = .ok (.iload_n 1, 1) := by decide +kernel
theorem dX1_saying_5 : decode cX1_saying 5 = .ok (.bipush 6, 2) := by decide +kernel
theorem dX1_saying_7 : decode cX1_saying 7 = .ok (.imul, 1) := by decide +kernel
theorem dX1_saying_8 : decode cX1_saying 8 = .ok (.iload_n 2, 1) := by decide +kernel
theorem dX1_saying_9 : decode cX1_saying 9 = .ok (.iadd, 1) := by decide +kernel
theorem dX1_saying_10 : decode cX1_saying 10 = .ok (.iaload, 1) := by decide +kernel
theorem dX1_saying_11 : decode cX1_saying 11 = .ok (.istore 4, 2) := by decide +kernel
theorem dX1_saying_13 : decode cX1_saying 13 = .ok (.iload 4, 2) := by decide +kernel
theorem dX1_saying_15 : decode cX1_saying 15 = .ok (.bipush (-9), 2) := by decide +kernel
theorem dX1_saying_17 : decode cX1_saying 17 = .ok (.if_icmp .eq 19, 3) := by decide +kernel
theorem dX1_saying_20 : decode cX1_saying 20 = .ok (.aload_n 0, 1) := by decide +kernel
theorem dX1_saying_21 : decode cX1_saying 21 = .ok (.getfield 21, 3) := by decide +kernel
theorem dX1_saying_24 : decode cX1_saying 24 = .ok (.iload 4, 2) := by decide +kernel
theorem dX1_saying_26 : decode cX1_saying 26 = .ok (.iaload, 1) := by decide +kernel
theorem dX1_saying_27 : decode cX1_saying 27 = .ok (.iload_n 3, 1) := by decide +kernel
theorem dX1_saying_28 : decode cX1_saying 28 = .ok (.if_icmp .ne 8, 3) := by decide +kernel
theorem dX1_saying_31 : decode cX1_saying 31 = .ok (.iload 4, 2) := by decide +kernel
theorem dX1_saying_33 : decode cX1_saying 33 = .ok (.goto 5, 3) := by decide +kernel
theorem dX1_saying_36 : decode cX1_saying 36 = .ok (.bipush (-9), 2) := by decide +kernel
theorem dX1_saying_38 : decode cX1_saying 38 = .ok (.ireturn, 1) := by decide +kernel
theorem dX2_init_0 : decode cX2_init 0 = .ok (.aload_n 0, 1) := by decide +kernel
theorem dX2_init_1 : decode cX2_init 1 = .ok (.invokespecial 3, 3) := by decide +kernel
theorem dX2_init_4 : decode cX2_init 4 = .ok (.aload_n 0, 1) := by decide +kernel
theorem dX2_init_5 : decode cX2_init 5 = .ok (.bipush 100, 2) := by decide +kernel
theorem dX2_init_7 : decode cX2_init 7 = .ok (.newarray .int, 2) := by decide +kernel
theorem dX2_init_9 : decode cX2_init 9 = .ok (.putfield 9, 3) := by decide +kernel
theorem dX2_init_12 : decode cX2_init 12 = .ok (.aload_n 0, 1) := by decide +kernel
theorem dX2_init_13 : decode cX2_init 13 = .ok (.aload_n 1, 1) := by decide +kernel
theorem dX2_init_14 : decode cX2_init 14 = .ok (.putfield 15, 3) := by decide +kernel
theorem dX2_init_17 : decode cX2_init 17 = .ok (.return_, 1) := by decide +kernel
theorem dX2_clearTrace_0 : decode cX2_clearTrace 0 = .ok (.aload_n 0, 1) := by decide +kernel
theorem dX2_clearTrace_1 : decode cX2_clearTrace 1 = .ok (.iconst 0, 1) := by decide +kernel
theorem dX2_clearTrace_2 : decode cX2_clearTrace 2 = .ok (.putfield 19, 3) := by decide +kernel
theorem dX2_clearTrace_5 : decode cX2_clearTrace 5 = .ok (.return_, 1) := by decide +kernel
theorem dX2_weigh_0 : decode cX2_weigh 0 = .ok (.aload_n 0, 1) := by decide +kernel
theorem dX2_weigh_1 : decode cX2_weigh 1 = .ok (.aload_n 1, 1) := by decide +kernel
theorem dX2_weigh_2 : decode cX2_weigh 2 = .ok (.iload_n 2, 1) := by decide +kernel
theorem dX2_weigh_3 : decode cX2_weigh 3 = .ok (.iconst 0, 1) := by decide +kernel
theorem dX2_weigh_4 : decode cX2_weigh 4 = .ok (.invokevirtual 23, 3) := by decide +kernel
theorem dX2_weigh_7 : decode cX2_weigh 7 = .ok (.ireturn, 1) := by decide +kernel
theorem dX2_weighTraced_0 : decode cX2_weighTraced 0 = .ok (.aload_n 0, 1) := by decide +kernel
theorem dX2_weighTraced_1 : decode cX2_weighTraced 1 = .ok (.iconst 1, 1) := by decide +kernel
theorem dX2_weighTraced_2 : decode cX2_weighTraced 2 = .ok (.putfield 27, 3) := by decide +kernel
theorem dX2_weighTraced_5 : decode cX2_weighTraced 5 = .ok (.aload_n 0, 1) := by decide +kernel
theorem dX2_weighTraced_6 : decode cX2_weighTraced 6 = .ok (.aload_n 1, 1) := by decide +kernel
theorem dX2_weighTraced_7 : decode cX2_weighTraced 7 = .ok (.iload_n 2, 1) := by decide +kernel
theorem dX2_weighTraced_8 : decode cX2_weighTraced 8 = .ok (.iconst 0, 1) := by decide +kernel
theorem dX2_weighTraced_9 : decode cX2_weighTraced 9 = .ok (.invokevirtual 23, 3) := by decide +kernel
theorem dX2_weighTraced_12 : decode cX2_weighTraced 12 = .ok (.istore_n 3, 1) := by decide +kernel
theorem dX2_weighTraced_13 : decode cX2_weighTraced 13 = .ok (.aload_n 0, 1) := by decide +kernel
theorem dX2_weighTraced_14 : decode cX2_weighTraced 14 = .ok (.iconst 0, 1) := by decide +kernel
theorem dX2_weighTraced_15 : decode cX2_weighTraced 15 = .ok (.putfield 27, 3) := by decide +kernel
theorem dX2_weighTraced_18 : decode cX2_weighTraced 18 = .ok (.iload_n 3, 1) := by decide +kernel
theorem dX2_weighTraced_19 : decode cX2_weighTraced 19 = .ok (.ireturn, 1) := by decide +kernel
theorem dX2_weighAllOf_0 : decode cX2_weighAllOf 0 = .ok (.iconst 0, 1) := by decide +kernel
theorem dX2_weighAllOf_1 : decode cX2_weighAllOf 1 = .ok (.istore_n 3, 1) := by decide +kernel
theorem dX2_weighAllOf_2 : decode cX2_weighAllOf 2 = .ok (.iconst 0, 1) := by decide +kernel
theorem dX2_weighAllOf_3 : decode cX2_weighAllOf 3 = .ok (.istore 4, 2) := by decide +kernel
theorem dX2_weighAllOf_5 : decode cX2_weighAllOf 5 = .ok (.iload 4, 2) := by decide +kernel
theorem dX2_weighAllOf_7 : decode cX2_weighAllOf 7 = .ok (.aload_n 0, 1) := by decide +kernel
theorem dX2_weighAllOf_8 : decode cX2_weighAllOf 8 = .ok (.getfield 15, 3) := by decide +kernel
theorem dX2_weighAllOf_11 : decode cX2_weighAllOf 11 = .ok (.getfield 31, 3) := by decide +kernel
theorem dX2_weighAllOf_14 : decode cX2_weighAllOf 14 = .ok (.if_icmp .ge 30, 3) := by decide +kernel
theorem dX2_weighAllOf_17 : decode cX2_weighAllOf 17 = .ok (.aload_n 1, 1) := by decide +kernel
theorem dX2_weighAllOf_18 : decode cX2_weighAllOf 18 = .ok (.iload 4, 2) := by decide +kernel
theorem dX2_weighAllOf_20 : decode cX2_weighAllOf 20 = .ok (.invokevirtual 36, 3) := by decide +kernel
theorem dX2_weighAllOf_23 : decode cX2_weighAllOf 23 = .ok (.iload_n 2, 1) := by decide +kernel
theorem dX2_weighAllOf_24 : decode cX2_weighAllOf 24 = .ok (.if_icmp .ne 14, 3) := by decide +kernel
theorem dX2_weighAllOf_27 : decode cX2_weighAllOf 27 = .ok (.iload_n 3, 1) := by decide +kernel
theorem dX2_weighAllOf_28 : decode cX2_weighAllOf 28 = .ok (.aload_n 0, 1) := by decide +kernel
theorem dX2_weighAllOf_29 : decode cX2_weighAllOf 29 = .ok (.aload_n 1, 1) := by decide +kernel
theorem dX2_weighAllOf_30 : decode cX2_weighAllOf 30 = .ok (.iload 4, 2) := by decide +kernel
theorem dX2_weighAllOf_32 : decode cX2_weighAllOf 32 = .ok (.iconst 0, 1) := by decide +kernel
theorem dX2_weighAllOf_33 : decode cX2_weighAllOf 33 = .ok (.invokevirtual 23, 3) := by decide +kernel
theorem dX2_weighAllOf_36 : decode cX2_weighAllOf 36 = .ok (.iadd, 1) := by decide +kernel
theorem dX2_weighAllOf_37 : decode cX2_weighAllOf 37 = .ok (.istore_n 3, 1) := by decide +kernel
theorem dX2_weighAllOf_38 : decode cX2_weighAllOf 38 = .ok (.iinc 4 1, 3) := by decide +kernel
theorem dX2_weighAllOf_41 : decode cX2_weighAllOf 41 = .ok (.goto (-36), 3) := by decide +kernel
theorem dX2_weighAllOf_44 : decode cX2_weighAllOf 44 = .ok (.iload_n 3, 1) := by decide +kernel
theorem dX2_weighAllOf_45 : decode cX2_weighAllOf 45 = .ok (.ireturn, 1) := by decide +kernel
theorem dX2_weighBy_0 : decode cX2_weighBy 0 = .ok (.iload_n 3, 1) := by decide +kernel
theorem dX2_weighBy_1 : decode cX2_weighBy 1 = .ok (.bipush 30, 2) := by decide +kernel
theorem dX2_weighBy_3 : decode cX2_weighBy 3 = .ok (.if_icmp .le 5, 3) := by decide +kernel
theorem dX2_weighBy_6 : decode cX2_weighBy 6 = .ok (.iconst 0, 1) := by decide +kernel
theorem dX2_weighBy_7 : decode cX2_weighBy 7 = .ok (.ireturn, 1) := by decide +kernel
theorem dX2_weighBy_8 : decode cX2_weighBy 8 = .ok (.aload_n 0, 1) := by decide +kernel
theorem dX2_weighBy_9 : decode cX2_weighBy 9 = .ok (.getfield 15, 3) := by decide +kernel
theorem dX2_weighBy_12 : decode cX2_weighBy 12 = .ok (.iload_n 2, 1) := by decide +kernel
theorem dX2_weighBy_13 : decode cX2_weighBy 13 = .ok (.invokevirtual 42, 3) := by decide +kernel
theorem dX2_weighBy_16 : decode cX2_weighBy 16 = .ok (.istore 4, 2) := by decide +kernel
theorem dX2_weighBy_18 : decode cX2_weighBy 18 = .ok (.aload_n 0, 1) := by decide +kernel
theorem dX2_weighBy_19 : decode cX2_weighBy 19 = .ok (.iload 4, 2) := by decide +kernel
theorem dX2_weighBy_21 : decode cX2_weighBy 21 = .ok (.invokevirtual 45, 3) := by decide +kernel
theorem dX2_weighBy_24 : decode cX2_weighBy 24 = .ok (.aload_n 0, 1) := by decide +kernel
theorem dX2_weighBy_25 : decode cX2_weighBy 25 = .ok (.getfield 15, 3) := by decide +kernel
theorem dX2_weighBy_28 : decode cX2_weighBy 28 = .ok (.getfield 49, 3) := by decide +kernel
theorem dX2_weighBy_31 : decode cX2_weighBy 31 = .ok (.iload_n 2, 1) := by decide +kernel
theorem dX2_weighBy_32 : decode cX2_weighBy 32 = .ok (.iaload, 1) := by decide +kernel
theorem dX2_weighBy_33 : decode cX2_weighBy 33 = .ok (.istore 5, 2) := by decide +kernel
theorem dX2_weighBy_35 : decode cX2_weighBy 35 = .ok (.iload 4, 2) := by decide +kernel
theorem dX2_weighBy_37 : decode cX2_weighBy 37 = .ok (.tableswitch 84 2 5 #[59, 31, 45, 77], 31) := by decide +kernel
theorem dX2_weighBy_68 : decode cX2_weighBy 68 = .ok (.iload 5, 2) := by decide +kernel
theorem dX2_weighBy_70 : decode cX2_weighBy 70 = .ok (.aload_n 0, 1) := by decide +kernel
theorem dX2_weighBy_71 : decode cX2_weighBy 71 = .ok (.aload_n 1, 1) := by decide +kernel
theorem dX2_weighBy_72 : decode cX2_weighBy 72 = .ok (.iconst 0, 1) := by decide +kernel
theorem dX2_weighBy_73 : decode cX2_weighBy 73 = .ok (.iload_n 2, 1) := by decide +kernel
theorem dX2_weighBy_74 : decode cX2_weighBy 74 = .ok (.iload_n 3, 1) := by decide +kernel
theorem dX2_weighBy_75 : decode cX2_weighBy 75 = .ok (.invokevirtual 52, 3) := by decide +kernel
theorem dX2_weighBy_78 : decode cX2_weighBy 78 = .ok (.iadd, 1) := by decide +kernel
theorem dX2_weighBy_79 : decode cX2_weighBy 79 = .ok (.goto 44, 3) := by decide +kernel
theorem dX2_weighBy_82 : decode cX2_weighBy 82 = .ok (.iload 5, 2) := by decide +kernel
theorem dX2_weighBy_84 : decode cX2_weighBy 84 = .ok (.aload_n 0, 1) := by decide +kernel
theorem dX2_weighBy_85 : decode cX2_weighBy 85 = .ok (.aload_n 1, 1) := by decide +kernel
theorem dX2_weighBy_86 : decode cX2_weighBy 86 = .ok (.iconst 1, 1) := by decide +kernel
theorem dX2_weighBy_87 : decode cX2_weighBy 87 = .ok (.iload_n 2, 1) := by decide +kernel
theorem dX2_weighBy_88 : decode cX2_weighBy 88 = .ok (.iload_n 3, 1) := by decide +kernel
theorem dX2_weighBy_89 : decode cX2_weighBy 89 = .ok (.invokevirtual 52, 3) := by decide +kernel
theorem dX2_weighBy_92 : decode cX2_weighBy 92 = .ok (.iadd, 1) := by decide +kernel
theorem dX2_weighBy_93 : decode cX2_weighBy 93 = .ok (.goto 30, 3) := by decide +kernel
theorem dX2_weighBy_96 : decode cX2_weighBy 96 = .ok (.iload 5, 2) := by decide +kernel
theorem dX2_weighBy_98 : decode cX2_weighBy 98 = .ok (.ifCond .ne 8, 3) := by decide +kernel
theorem dX2_weighBy_101 : decode cX2_weighBy 101 = .ok (.bipush (-9), 2) := by decide +kernel
theorem dX2_weighBy_103 : decode cX2_weighBy 103 = .ok (.goto 20, 3) := by decide +kernel
theorem dX2_weighBy_106 : decode cX2_weighBy 106 = .ok (.bipush 100, 2) := by decide +kernel
theorem dX2_weighBy_108 : decode cX2_weighBy 108 = .ok (.iload 5, 2) := by decide +kernel
theorem dX2_weighBy_110 : decode cX2_weighBy 110 = .ok (.idiv, 1) := by decide +kernel
theorem dX2_weighBy_111 : decode cX2_weighBy 111 = .ok (.goto 12, 3) := by decide +kernel
theorem dX2_weighBy_114 : decode cX2_weighBy 114 = .ok (.iconst 2, 1) := by decide +kernel
theorem dX2_weighBy_115 : decode cX2_weighBy 115 = .ok (.iload 5, 2) := by decide +kernel
theorem dX2_weighBy_117 : decode cX2_weighBy 117 = .ok (.imul, 1) := by decide +kernel
theorem dX2_weighBy_118 : decode cX2_weighBy 118 = .ok (.goto 5, 3) := by decide +kernel
theorem dX2_weighBy_121 : decode cX2_weighBy 121 = .ok (.iload 5, 2) := by decide +kernel
theorem dX2_weighBy_123 : decode cX2_weighBy 123 = .ok (.ireturn, 1) := by decide +kernel
theorem dX2_weighThose_0 : decode cX2_weighThose 0 = .ok (.iconst 0, 1) := by decide +kernel
theorem dX2_weighThose_1 : decode cX2_weighThose 1 = .ok (.istore 5, 2) := by decide +kernel
theorem dX2_weighThose_3 : decode cX2_weighThose 3 = .ok (.iconst 0, 1) := by decide +kernel
theorem dX2_weighThose_4 : decode cX2_weighThose 4 = .ok (.istore 6, 2) := by decide +kernel
theorem dX2_weighThose_6 : decode cX2_weighThose 6 = .ok (.iload 6, 2) := by decide +kernel
theorem dX2_weighThose_8 : decode cX2_weighThose 8 = .ok (.aload_n 0, 1) := by decide +kernel
theorem dX2_weighThose_9 : decode cX2_weighThose 9 = .ok (.getfield 15, 3) := by decide +kernel
theorem dX2_weighThose_12 : decode cX2_weighThose 12 = .ok (.getfield 31, 3) := by decide +kernel
theorem dX2_weighThose_15 : decode cX2_weighThose 15 = .ok (.if_icmp .ge 36, 3) := by decide +kernel
theorem dX2_weighThose_18 : decode cX2_weighThose 18 = .ok (.aload_n 1, 1) := by decide +kernel
theorem dX2_weighThose_19 : decode cX2_weighThose 19 = .ok (.iload 6, 2) := by decide +kernel
theorem dX2_weighThose_21 : decode cX2_weighThose 21 = .ok (.iload_n 2, 1) := by decide +kernel
theorem dX2_weighThose_22 : decode cX2_weighThose 22 = .ok (.iload_n 3, 1) := by decide +kernel
theorem dX2_weighThose_23 : decode cX2_weighThose 23 = .ok (.invokevirtual 56, 3) := by decide +kernel
theorem dX2_weighThose_26 : decode cX2_weighThose 26 = .ok (.ifCond .eq 19, 3) := by decide +kernel
theorem dX2_weighThose_29 : decode cX2_weighThose 29 = .ok (.iload 5, 2) := by decide +kernel
theorem dX2_weighThose_31 : decode cX2_weighThose 31 = .ok (.aload_n 0, 1) := by decide +kernel
theorem dX2_weighThose_32 : decode cX2_weighThose 32 = .ok (.aload_n 1, 1) := by decide +kernel
theorem dX2_weighThose_33 : decode cX2_weighThose 33 = .ok (.iload 6, 2) := by decide +kernel
theorem dX2_weighThose_35 : decode cX2_weighThose 35 = .ok (.iload 4, 2) := by decide +kernel
theorem dX2_weighThose_37 : decode cX2_weighThose 37 = .ok (.iconst 1, 1) := by decide +kernel
theorem dX2_weighThose_38 : decode cX2_weighThose 38 = .ok (.iadd, 1) := by decide +kernel
theorem dX2_weighThose_39 : decode cX2_weighThose 39 = .ok (.invokevirtual 23, 3) := by decide +kernel
theorem dX2_weighThose_42 : decode cX2_weighThose 42 = .ok (.iadd, 1) := by decide +kernel
theorem dX2_weighThose_43 : decode cX2_weighThose 43 = .ok (.istore 5, 2) := by decide +kernel
theorem dX2_weighThose_45 : decode cX2_weighThose 45 = .ok (.iinc 6 1, 3) := by decide +kernel
theorem dX2_weighThose_48 : decode cX2_weighThose 48 = .ok (.goto (-42), 3) := by decide +kernel
theorem dX2_weighThose_51 : decode cX2_weighThose 51 = .ok (.iload 5, 2) := by decide +kernel
theorem dX2_weighThose_53 : decode cX2_weighThose 53 = .ok (.ireturn, 1) := by decide +kernel
theorem dX2_noteBodies_0 : decode cX2_noteBodies 0 = .ok (.iload_n 1, 1) := by decide +kernel
theorem dX2_noteBodies_1 : decode cX2_noteBodies 1 = .ok (.iconst 3, 1) := by decide +kernel
theorem dX2_noteBodies_2 : decode cX2_noteBodies 2 = .ok (.if_icmp .eq 18, 3) := by decide +kernel
theorem dX2_noteBodies_5 : decode cX2_noteBodies 5 = .ok (.iload_n 1, 1) := by decide +kernel
theorem dX2_noteBodies_6 : decode cX2_noteBodies 6 = .ok (.iconst 4, 1) := by decide +kernel
theorem dX2_noteBodies_7 : decode cX2_noteBodies 7 = .ok (.if_icmp .eq 13, 3) := by decide +kernel
theorem dX2_noteBodies_10 : decode cX2_noteBodies 10 = .ok (.iload_n 1, 1) := by decide +kernel
theorem dX2_noteBodies_11 : decode cX2_noteBodies 11 = .ok (.iconst 2, 1) := by decide +kernel
theorem dX2_noteBodies_12 : decode cX2_noteBodies 12 = .ok (.if_icmp .eq 8, 3) := by decide +kernel
theorem dX2_noteBodies_15 : decode cX2_noteBodies 15 = .ok (.iload_n 1, 1) := by decide +kernel
theorem dX2_noteBodies_16 : decode cX2_noteBodies 16 = .ok (.iconst 5, 1) := by decide +kernel
theorem dX2_noteBodies_17 : decode cX2_noteBodies 17 = .ok (.if_icmp .ne 12, 3) := by decide +kernel
theorem dX2_noteBodies_20 : decode cX2_noteBodies 20 = .ok (.aload_n 0, 1) := by decide +kernel
theorem dX2_noteBodies_21 : decode cX2_noteBodies 21 = .ok (.getstatic 60, 3) := by decide +kernel
theorem dX2_noteBodies_24 : decode cX2_noteBodies 24 = .ok (.iload_n 1, 1) := by decide +kernel
theorem dX2_noteBodies_25 : decode cX2_noteBodies 25 = .ok (.iaload, 1) := by decide +kernel
theorem dX2_noteBodies_26 : decode cX2_noteBodies 26 = .ok (.invokevirtual 63, 3) := by decide +kernel
theorem dX2_noteBodies_29 : decode cX2_noteBodies 29 = .ok (.aload_n 0, 1) := by decide +kernel
theorem dX2_noteBodies_30 : decode cX2_noteBodies 30 = .ok (.getstatic 60, 3) := by decide +kernel
theorem dX2_noteBodies_33 : decode cX2_noteBodies 33 = .ok (.iconst 1, 1) := by decide +kernel
theorem dX2_noteBodies_34 : decode cX2_noteBodies 34 = .ok (.iaload, 1) := by decide +kernel
theorem dX2_noteBodies_35 : decode cX2_noteBodies 35 = .ok (.invokevirtual 63, 3) := by decide +kernel
theorem dX2_noteBodies_38 : decode cX2_noteBodies 38 = .ok (.return_, 1) := by decide +kernel
theorem dX2_note_0 : decode cX2_note 0 = .ok (.aload_n 0, 1) := by decide +kernel
theorem dX2_note_1 : decode cX2_note 1 = .ok (.getfield 27, 3) := by decide +kernel
theorem dX2_note_4 : decode cX2_note 4 = .ok (.ifCond .eq 29, 3) := by decide +kernel
theorem dX2_note_7 : decode cX2_note 7 = .ok (.aload_n 0, 1) := by decide +kernel
theorem dX2_note_8 : decode cX2_note 8 = .ok (.getfield 19, 3) := by decide +kernel
theorem dX2_note_11 : decode cX2_note 11 = .ok (.bipush 100, 2) := by decide +kernel
theorem dX2_note_13 : decode cX2_note 13 = .ok (.if_icmp .ge 20, 3) := by decide +kernel
theorem dX2_note_16 : decode cX2_note 16 = .ok (.aload_n 0, 1) := by decide +kernel
theorem dX2_note_17 : decode cX2_note 17 = .ok (.getfield 9, 3) := by decide +kernel
theorem dX2_note_20 : decode cX2_note 20 = .ok (.aload_n 0, 1) := by decide +kernel
theorem dX2_note_21 : decode cX2_note 21 = .ok (.dup, 1) := by decide +kernel
theorem dX2_note_22 : decode cX2_note 22 = .ok (.getfield 19, 3) := by decide +kernel
theorem dX2_note_25 : decode cX2_note 25 = .ok (.dup_x1, 1) := by decide +kernel
theorem dX2_note_26 : decode cX2_note 26 = .ok (.iconst 1, 1) := by decide +kernel
theorem dX2_note_27 : decode cX2_note 27 = .ok (.iadd, 1) := by decide +kernel
theorem dX2_note_28 : decode cX2_note 28 = .ok (.putfield 19, 3) := by decide +kernel
theorem dX2_note_31 : decode cX2_note 31 = .ok (.iload_n 1, 1) := by decide +kernel
theorem dX2_note_32 : decode cX2_note 32 = .ok (.iastore, 1) := by decide +kernel
theorem dX2_note_33 : decode cX2_note 33 = .ok (.return_, 1) := by decide +kernel
theorem dX3_init_0 : decode cX3_init 0 = .ok (.aload_n 0, 1) := by decide +kernel
theorem dX3_init_1 : decode cX3_init 1 = .ok (.invokespecial 3, 3) := by decide +kernel
theorem dX3_init_4 : decode cX3_init 4 = .ok (.aload_n 0, 1) := by decide +kernel
theorem dX3_init_5 : decode cX3_init 5 = .ok (.bipush 10, 2) := by decide +kernel
theorem dX3_init_7 : decode cX3_init 7 = .ok (.newarray .int, 2) := by decide +kernel
theorem dX3_init_9 : decode cX3_init 9 = .ok (.putfield 9, 3) := by decide +kernel
theorem dX3_init_12 : decode cX3_init 12 = .ok (.aload_n 0, 1) := by decide +kernel
theorem dX3_init_13 : decode cX3_init 13 = .ok (.bipush 10, 2) := by decide +kernel
theorem dX3_init_15 : decode cX3_init 15 = .ok (.newarray .int, 2) := by decide +kernel
theorem dX3_init_17 : decode cX3_init 17 = .ok (.putfield 15, 3) := by decide +kernel
theorem dX3_init_20 : decode cX3_init 20 = .ok (.aload_n 0, 1) := by decide +kernel
theorem dX3_init_21 : decode cX3_init 21 = .ok (.bipush 120, 2) := by decide +kernel
theorem dX3_init_23 : decode cX3_init 23 = .ok (.newarray .int, 2) := by decide +kernel
theorem dX3_init_25 : decode cX3_init 25 = .ok (.putfield 18, 3) := by decide +kernel
theorem dX3_init_28 : decode cX3_init 28 = .ok (.aload_n 0, 1) := by decide +kernel
theorem dX3_init_29 : decode cX3_init 29 = .ok (.getfield 18, 3) := by decide +kernel
theorem dX3_init_32 : decode cX3_init 32 = .ok (.bipush (-9), 2) := by decide +kernel
theorem dX3_init_34 : decode cX3_init 34 = .ok (.invokestatic 21, 3) := by decide +kernel
theorem dX3_init_37 : decode cX3_init 37 = .ok (.return_, 1) := by decide +kernel
theorem dX3_open_0 : decode cX3_open 0 = .ok (.aload_n 0, 1) := by decide +kernel
theorem dX3_open_1 : decode cX3_open 1 = .ok (.getfield 9, 3) := by decide +kernel
theorem dX3_open_4 : decode cX3_open 4 = .ok (.aload_n 0, 1) := by decide +kernel
theorem dX3_open_5 : decode cX3_open 5 = .ok (.getfield 27, 3) := by decide +kernel
theorem dX3_open_8 : decode cX3_open 8 = .ok (.iload_n 1, 1) := by decide +kernel
theorem dX3_open_9 : decode cX3_open 9 = .ok (.iastore, 1) := by decide +kernel
theorem dX3_open_10 : decode cX3_open 10 = .ok (.aload_n 0, 1) := by decide +kernel
theorem dX3_open_11 : decode cX3_open 11 = .ok (.getfield 15, 3) := by decide +kernel
theorem dX3_open_14 : decode cX3_open 14 = .ok (.aload_n 0, 1) := by decide +kernel
theorem dX3_open_15 : decode cX3_open 15 = .ok (.getfield 27, 3) := by decide +kernel
theorem dX3_open_18 : decode cX3_open 18 = .ok (.iload_n 2, 1) := by decide +kernel
theorem dX3_open_19 : decode cX3_open 19 = .ok (.iastore, 1) := by decide +kernel
theorem dX3_open_20 : decode cX3_open 20 = .ok (.aload_n 0, 1) := by decide +kernel
theorem dX3_open_21 : decode cX3_open 21 = .ok (.dup, 1) := by decide +kernel
theorem dX3_open_22 : decode cX3_open 22 = .ok (.getfield 27, 3) := by decide +kernel
theorem dX3_open_25 : decode cX3_open 25 = .ok (.dup_x1, 1) := by decide +kernel
theorem dX3_open_26 : decode cX3_open 26 = .ok (.iconst 1, 1) := by decide +kernel
theorem dX3_open_27 : decode cX3_open 27 = .ok (.iadd, 1) := by decide +kernel
theorem dX3_open_28 : decode cX3_open 28 = .ok (.putfield 27, 3) := by decide +kernel
theorem dX3_open_31 : decode cX3_open 31 = .ok (.ireturn, 1) := by decide +kernel
theorem dX4_init_0 : decode cX4_init 0 = .ok (.aload_n 0, 1) := by decide +kernel
theorem dX4_init_1 : decode cX4_init 1 = .ok (.invokespecial 3, 3) := by decide +kernel
theorem dX4_init_4 : decode cX4_init 4 = .ok (.aload_n 0, 1) := by decide +kernel
theorem dX4_init_5 : decode cX4_init 5 = .ok (.bipush 30, 2) := by decide +kernel
theorem dX4_init_7 : decode cX4_init 7 = .ok (.newarray .int, 2) := by decide +kernel
theorem dX4_init_9 : decode cX4_init 9 = .ok (.putfield 9, 3) := by decide +kernel
theorem dX4_init_12 : decode cX4_init 12 = .ok (.aload_n 0, 1) := by decide +kernel
theorem dX4_init_13 : decode cX4_init 13 = .ok (.bipush 30, 2) := by decide +kernel
theorem dX4_init_15 : decode cX4_init 15 = .ok (.newarray .int, 2) := by decide +kernel
theorem dX4_init_17 : decode cX4_init 17 = .ok (.putfield 15, 3) := by decide +kernel
theorem dX4_init_20 : decode cX4_init 20 = .ok (.aload_n 0, 1) := by decide +kernel
theorem dX4_init_21 : decode cX4_init 21 = .ok (.sipush 360, 3) := by decide +kernel
theorem dX4_init_24 : decode cX4_init 24 = .ok (.newarray .long, 2) := by decide +kernel
theorem dX4_init_26 : decode cX4_init 26 = .ok (.putfield 18, 3) := by decide +kernel
theorem dX4_init_29 : decode cX4_init 29 = .ok (.aload_n 0, 1) := by decide +kernel
theorem dX4_init_30 : decode cX4_init 30 = .ok (.getfield 9, 3) := by decide +kernel
theorem dX4_init_33 : decode cX4_init 33 = .ok (.bipush (-9), 2) := by decide +kernel
theorem dX4_init_35 : decode cX4_init 35 = .ok (.invokestatic 22, 3) := by decide +kernel
theorem dX4_init_38 : decode cX4_init 38 = .ok (.return_, 1) := by decide +kernel
theorem dX4_lay_0 : decode cX4_lay 0 = .ok (.aload_n 0, 1) := by decide +kernel
theorem dX4_lay_1 : decode cX4_lay 1 = .ok (.getfield 9, 3) := by decide +kernel
theorem dX4_lay_4 : decode cX4_lay 4 = .ok (.iload_n 1, 1) := by decide +kernel
theorem dX4_lay_5 : decode cX4_lay 5 = .ok (.iload_n 2, 1) := by decide +kernel
theorem dX4_lay_6 : decode cX4_lay 6 = .ok (.iastore, 1) := by decide +kernel
theorem dX4_lay_7 : decode cX4_lay 7 = .ok (.aload_n 0, 1) := by decide +kernel
theorem dX4_lay_8 : decode cX4_lay 8 = .ok (.getfield 15, 3) := by decide +kernel
theorem dX4_lay_11 : decode cX4_lay 11 = .ok (.iload_n 1, 1) := by decide +kernel
theorem dX4_lay_12 : decode cX4_lay 12 = .ok (.iload_n 3, 1) := by decide +kernel
theorem dX4_lay_13 : decode cX4_lay 13 = .ok (.iastore, 1) := by decide +kernel
theorem dX4_lay_14 : decode cX4_lay 14 = .ok (.iconst 0, 1) := by decide +kernel
theorem dX4_lay_15 : decode cX4_lay 15 = .ok (.istore 4, 2) := by decide +kernel
theorem dX4_lay_17 : decode cX4_lay 17 = .ok (.iload 4, 2) := by decide +kernel
theorem dX4_lay_19 : decode cX4_lay 19 = .ok (.bipush 12, 2) := by decide +kernel
theorem dX4_lay_21 : decode cX4_lay 21 = .ok (.if_icmp .ge 22, 3) := by decide +kernel
theorem dX4_lay_24 : decode cX4_lay 24 = .ok (.aload_n 0, 1) := by decide +kernel
theorem dX4_lay_25 : decode cX4_lay 25 = .ok (.getfield 18, 3) := by decide +kernel
theorem dX4_lay_28 : decode cX4_lay 28 = .ok (.iload_n 1, 1) := by decide +kernel
theorem dX4_lay_29 : decode cX4_lay 29 = .ok (.bipush 12, 2) := by decide +kernel
theorem dX4_lay_31 : decode cX4_lay 31 = .ok (.imul, 1) := by decide +kernel
theorem dX4_lay_32 : decode cX4_lay 32 = .ok (.iload 4, 2) := by decide +kernel
theorem dX4_lay_34 : decode cX4_lay 34 = .ok (.iadd, 1) := by decide +kernel
theorem dX4_lay_35 : decode cX4_lay 35 = .ok (.lconst 0, 1) := by decide +kernel
theorem dX4_lay_36 : decode cX4_lay 36 = .ok (.lastore, 1) := by decide +kernel
theorem dX4_lay_37 : decode cX4_lay 37 = .ok (.iinc 4 1, 3) := by decide +kernel
theorem dX4_lay_40 : decode cX4_lay 40 = .ok (.goto (-23), 3) := by decide +kernel
theorem dX4_lay_43 : decode cX4_lay 43 = .ok (.return_, 1) := by decide +kernel
theorem dX4_isOther_0 : decode cX4_isOther 0 = .ok (.aload_n 0, 1) := by decide +kernel
theorem dX4_isOther_1 : decode cX4_isOther 1 = .ok (.getfield 9, 3) := by decide +kernel
theorem dX4_isOther_4 : decode cX4_isOther 4 = .ok (.iload_n 1, 1) := by decide +kernel
theorem dX4_isOther_5 : decode cX4_isOther 5 = .ok (.iaload, 1) := by decide +kernel
theorem dX4_isOther_6 : decode cX4_isOther 6 = .ok (.bipush (-9), 2) := by decide +kernel
theorem dX4_isOther_8 : decode cX4_isOther 8 = .ok (.if_icmp .eq 17, 3) := by decide +kernel
theorem dX4_isOther_11 : decode cX4_isOther 11 = .ok (.aload_n 0, 1) := by decide +kernel
theorem dX4_isOther_12 : decode cX4_isOther 12 = .ok (.getfield 9, 3) := by decide +kernel
theorem dX4_isOther_15 : decode cX4_isOther 15 = .ok (.iload_n 1, 1) := by decide +kernel
theorem dX4_isOther_16 : decode cX4_isOther 16 = .ok (.iaload, 1) := by decide +kernel
theorem dX4_isOther_17 : decode cX4_isOther 17 = .ok (.iload_n 2, 1) := by decide +kernel
theorem dX4_isOther_18 : decode cX4_isOther 18 = .ok (.if_icmp .eq 7, 3) := by decide +kernel
theorem dX4_isOther_21 : decode cX4_isOther 21 = .ok (.iconst 1, 1) := by decide +kernel
theorem dX4_isOther_22 : decode cX4_isOther 22 = .ok (.goto 4, 3) := by decide +kernel
theorem dX4_isOther_25 : decode cX4_isOther 25 = .ok (.iconst 0, 1) := by decide +kernel
theorem dX4_isOther_26 : decode cX4_isOther 26 = .ok (.ireturn, 1) := by decide +kernel
theorem dX4_hasRun_0 : decode cX4_hasRun 0 = .ok (.iload_n 2, 1) := by decide +kernel
theorem dX4_hasRun_1 : decode cX4_hasRun 1 = .ok (.ifCond .lt 33, 3) := by decide +kernel
theorem dX4_hasRun_4 : decode cX4_hasRun 4 = .ok (.iload_n 3, 1) := by decide +kernel
theorem dX4_hasRun_5 : decode cX4_hasRun 5 = .ok (.ifCond .lt 29, 3) := by decide +kernel
theorem dX4_hasRun_8 : decode cX4_hasRun 8 = .ok (.iload_n 2, 1) := by decide +kernel
theorem dX4_hasRun_9 : decode cX4_hasRun 9 = .ok (.aload_n 0, 1) := by decide +kernel
theorem dX4_hasRun_10 : decode cX4_hasRun 10 = .ok (.getfield 15, 3) := by decide +kernel
theorem dX4_hasRun_13 : decode cX4_hasRun 13 = .ok (.iload_n 1, 1) := by decide +kernel
theorem dX4_hasRun_14 : decode cX4_hasRun 14 = .ok (.iaload, 1) := by decide +kernel
theorem dX4_hasRun_15 : decode cX4_hasRun 15 = .ok (.if_icmp .gt 19, 3) := by decide +kernel
theorem dX4_hasRun_18 : decode cX4_hasRun 18 = .ok (.iload_n 3, 1) := by decide +kernel
theorem dX4_hasRun_19 : decode cX4_hasRun 19 = .ok (.aload_n 0, 1) := by decide +kernel
theorem dX4_hasRun_20 : decode cX4_hasRun 20 = .ok (.getfield 15, 3) := by decide +kernel
theorem dX4_hasRun_23 : decode cX4_hasRun 23 = .ok (.iload_n 1, 1) := by decide +kernel
theorem dX4_hasRun_24 : decode cX4_hasRun 24 = .ok (.iaload, 1) := by decide +kernel
theorem dX4_hasRun_25 : decode cX4_hasRun 25 = .ok (.iload_n 2, 1) := by decide +kernel
theorem dX4_hasRun_26 : decode cX4_hasRun 26 = .ok (.isub, 1) := by decide +kernel
theorem dX4_hasRun_27 : decode cX4_hasRun 27 = .ok (.if_icmp .gt 7, 3) := by decide +kernel
theorem dX4_hasRun_30 : decode cX4_hasRun 30 = .ok (.iconst 1, 1) := by decide +kernel
theorem dX4_hasRun_31 : decode cX4_hasRun 31 = .ok (.goto 4, 3) := by decide +kernel
theorem dX4_hasRun_34 : decode cX4_hasRun 34 = .ok (.iconst 0, 1) := by decide +kernel
theorem dX4_hasRun_35 : decode cX4_hasRun 35 = .ok (.ireturn, 1) := by decide +kernel
theorem dX4_cutTo_0 : decode cX4_cutTo 0 = .ok (.iload_n 1, 1) := by decide +kernel
theorem dX4_cutTo_1 : decode cX4_cutTo 1 = .ok (.tableswitch 49 0 2 #[27, 34, 40], 27) := by decide +kernel
theorem dX4_cutTo_28 : decode cX4_cutTo 28 = .ok (.lload_n 2, 1) := by decide +kernel
theorem dX4_cutTo_29 : decode cX4_cutTo 29 = .ok (.l2i, 1) := by decide +kernel
theorem dX4_cutTo_30 : decode cX4_cutTo 30 = .ok (.i2b, 1) := by decide +kernel
theorem dX4_cutTo_31 : decode cX4_cutTo 31 = .ok (.i2l, 1) := by decide +kernel
theorem dX4_cutTo_32 : decode cX4_cutTo 32 = .ok (.goto 19, 3) := by decide +kernel
theorem dX4_cutTo_35 : decode cX4_cutTo 35 = .ok (.lload_n 2, 1) := by decide +kernel
theorem dX4_cutTo_36 : decode cX4_cutTo 36 = .ok (.l2i, 1) := by decide +kernel
theorem dX4_cutTo_37 : decode cX4_cutTo 37 = .ok (.i2l, 1) := by decide +kernel
theorem dX4_cutTo_38 : decode cX4_cutTo 38 = .ok (.goto 13, 3) := by decide +kernel
theorem dX4_cutTo_41 : decode cX4_cutTo 41 = .ok (.lload_n 2, 1) := by decide +kernel
theorem dX4_cutTo_42 : decode cX4_cutTo 42 = .ok (.l2i, 1) := by decide +kernel
theorem dX4_cutTo_43 : decode cX4_cutTo 43 = .ok (.invokestatic 28, 3) := by decide +kernel
theorem dX4_cutTo_46 : decode cX4_cutTo 46 = .ok (.i2l, 1) := by decide +kernel
theorem dX4_cutTo_47 : decode cX4_cutTo 47 = .ok (.goto 4, 3) := by decide +kernel
theorem dX4_cutTo_50 : decode cX4_cutTo 50 = .ok (.lload_n 2, 1) := by decide +kernel
theorem dX4_cutTo_51 : decode cX4_cutTo 51 = .ok (.lreturn, 1) := by decide +kernel
theorem dX4_floatBits_0 : decode cX4_floatBits 0 = .ok (.iload_n 0, 1) := by decide +kernel
theorem dX4_floatBits_1 : decode cX4_floatBits 1 = .ok (.ldc 32, 2) := by decide +kernel
theorem dX4_floatBits_3 : decode cX4_floatBits 3 = .ok (.iand, 1) := by decide +kernel
theorem dX4_floatBits_4 : decode cX4_floatBits 4 = .ok (.ldc 33, 2) := by decide +kernel
theorem dX4_floatBits_6 : decode cX4_floatBits 6 = .ok (.if_icmp .le 8, 3) := by decide +kernel
theorem dX4_floatBits_9 : decode cX4_floatBits 9 = .ok (.ldc 34, 2) := by decide +kernel
theorem dX4_floatBits_11 : decode cX4_floatBits 11 = .ok (.goto 4, 3) := by decide +kernel
theorem dX4_floatBits_14 : decode cX4_floatBits 14 = .ok (.iload_n 0, 1) := by decide +kernel
theorem dX4_floatBits_15 : decode cX4_floatBits 15 = .ok (.ireturn, 1) := by decide +kernel
theorem dX5_init_0 : decode cX5_init 0 = .ok (.aload_n 0, 1) := by decide +kernel
theorem dX5_init_1 : decode cX5_init 1 = .ok (.invokespecial 3, 3) := by decide +kernel
theorem dX5_init_4 : decode cX5_init 4 = .ok (.aload_n 0, 1) := by decide +kernel
theorem dX5_init_5 : decode cX5_init 5 = .ok (.sipush 300, 3) := by decide +kernel
theorem dX5_init_8 : decode cX5_init 8 = .ok (.newarray .int, 2) := by decide +kernel
theorem dX5_init_10 : decode cX5_init 10 = .ok (.putfield 9, 3) := by decide +kernel
theorem dX5_init_13 : decode cX5_init 13 = .ok (.aload_n 0, 1) := by decide +kernel
theorem dX5_init_14 : decode cX5_init 14 = .ok (.sipush 300, 3) := by decide +kernel
theorem dX5_init_17 : decode cX5_init 17 = .ok (.newarray .int, 2) := by decide +kernel
theorem dX5_init_19 : decode cX5_init 19 = .ok (.putfield 15, 3) := by decide +kernel
theorem dX5_init_22 : decode cX5_init 22 = .ok (.aload_n 0, 1) := by decide +kernel
theorem dX5_init_23 : decode cX5_init 23 = .ok (.sipush 300, 3) := by decide +kernel
theorem dX5_init_26 : decode cX5_init 26 = .ok (.newarray .int, 2) := by decide +kernel
theorem dX5_init_28 : decode cX5_init 28 = .ok (.putfield 18, 3) := by decide +kernel
theorem dX5_init_31 : decode cX5_init 31 = .ok (.aload_n 0, 1) := by decide +kernel
theorem dX5_init_32 : decode cX5_init 32 = .ok (.sipush 300, 3) := by decide +kernel
theorem dX5_init_35 : decode cX5_init 35 = .ok (.newarray .int, 2) := by decide +kernel
theorem dX5_init_37 : decode cX5_init 37 = .ok (.putfield 21, 3) := by decide +kernel
theorem dX5_init_40 : decode cX5_init 40 = .ok (.aload_n 0, 1) := by decide +kernel
theorem dX5_init_41 : decode cX5_init 41 = .ok (.bipush 30, 2) := by decide +kernel
theorem dX5_init_43 : decode cX5_init 43 = .ok (.newarray .int, 2) := by decide +kernel
theorem dX5_init_45 : decode cX5_init 45 = .ok (.putfield 24, 3) := by decide +kernel
theorem dX5_init_48 : decode cX5_init 48 = .ok (.aload_n 0, 1) := by decide +kernel
theorem dX5_init_49 : decode cX5_init 49 = .ok (.bipush 30, 2) := by decide +kernel
theorem dX5_init_51 : decode cX5_init 51 = .ok (.newarray .int, 2) := by decide +kernel
theorem dX5_init_53 : decode cX5_init 53 = .ok (.putfield 27, 3) := by decide +kernel
theorem dX5_init_56 : decode cX5_init 56 = .ok (.aload_n 0, 1) := by decide +kernel
theorem dX5_init_57 : decode cX5_init 57 = .ok (.bipush 30, 2) := by decide +kernel
theorem dX5_init_59 : decode cX5_init 59 = .ok (.newarray .int, 2) := by decide +kernel
theorem dX5_init_61 : decode cX5_init 61 = .ok (.putfield 30, 3) := by decide +kernel
theorem dX5_init_64 : decode cX5_init 64 = .ok (.aload_n 0, 1) := by decide +kernel
theorem dX5_init_65 : decode cX5_init 65 = .ok (.bipush 30, 2) := by decide +kernel
theorem dX5_init_67 : decode cX5_init 67 = .ok (.newarray .int, 2) := by decide +kernel
theorem dX5_init_69 : decode cX5_init 69 = .ok (.putfield 33, 3) := by decide +kernel
theorem dX5_init_72 : decode cX5_init 72 = .ok (.aload_n 0, 1) := by decide +kernel
theorem dX5_init_73 : decode cX5_init 73 = .ok (.bipush 30, 2) := by decide +kernel
theorem dX5_init_75 : decode cX5_init 75 = .ok (.newarray .int, 2) := by decide +kernel
theorem dX5_init_77 : decode cX5_init 77 = .ok (.putfield 36, 3) := by decide +kernel
theorem dX5_init_80 : decode cX5_init 80 = .ok (.aload_n 0, 1) := by decide +kernel
theorem dX5_init_81 : decode cX5_init 81 = .ok (.aload_n 1, 1) := by decide +kernel
theorem dX5_init_82 : decode cX5_init 82 = .ok (.putfield 39, 3) := by decide +kernel
theorem dX5_init_85 : decode cX5_init 85 = .ok (.aload_n 0, 1) := by decide +kernel
theorem dX5_init_86 : decode cX5_init 86 = .ok (.aload_n 2, 1) := by decide +kernel
theorem dX5_init_87 : decode cX5_init 87 = .ok (.putfield 43, 3) := by decide +kernel
theorem dX5_init_90 : decode cX5_init 90 = .ok (.aload_n 0, 1) := by decide +kernel
theorem dX5_init_91 : decode cX5_init 91 = .ok (.invokevirtual 47, 3) := by decide +kernel
theorem dX5_init_94 : decode cX5_init 94 = .ok (.return_, 1) := by decide +kernel
theorem dX5_wipe_0 : decode cX5_wipe 0 = .ok (.aload_n 0, 1) := by decide +kernel
theorem dX5_wipe_1 : decode cX5_wipe 1 = .ok (.getfield 9, 3) := by decide +kernel
theorem dX5_wipe_4 : decode cX5_wipe 4 = .ok (.bipush (-9), 2) := by decide +kernel
theorem dX5_wipe_6 : decode cX5_wipe 6 = .ok (.invokestatic 50, 3) := by decide +kernel
theorem dX5_wipe_9 : decode cX5_wipe 9 = .ok (.aload_n 0, 1) := by decide +kernel
theorem dX5_wipe_10 : decode cX5_wipe 10 = .ok (.getfield 15, 3) := by decide +kernel
theorem dX5_wipe_13 : decode cX5_wipe 13 = .ok (.bipush (-9), 2) := by decide +kernel
theorem dX5_wipe_15 : decode cX5_wipe 15 = .ok (.invokestatic 50, 3) := by decide +kernel
theorem dX5_wipe_18 : decode cX5_wipe 18 = .ok (.aload_n 0, 1) := by decide +kernel
theorem dX5_wipe_19 : decode cX5_wipe 19 = .ok (.getfield 18, 3) := by decide +kernel
theorem dX5_wipe_22 : decode cX5_wipe 22 = .ok (.bipush (-9), 2) := by decide +kernel
theorem dX5_wipe_24 : decode cX5_wipe 24 = .ok (.invokestatic 50, 3) := by decide +kernel
theorem dX5_wipe_27 : decode cX5_wipe 27 = .ok (.aload_n 0, 1) := by decide +kernel
theorem dX5_wipe_28 : decode cX5_wipe 28 = .ok (.getfield 21, 3) := by decide +kernel
theorem dX5_wipe_31 : decode cX5_wipe 31 = .ok (.iconst 0, 1) := by decide +kernel
theorem dX5_wipe_32 : decode cX5_wipe 32 = .ok (.invokestatic 50, 3) := by decide +kernel
theorem dX5_wipe_35 : decode cX5_wipe 35 = .ok (.aload_n 0, 1) := by decide +kernel
theorem dX5_wipe_36 : decode cX5_wipe 36 = .ok (.getfield 24, 3) := by decide +kernel
theorem dX5_wipe_39 : decode cX5_wipe 39 = .ok (.bipush (-9), 2) := by decide +kernel
theorem dX5_wipe_41 : decode cX5_wipe 41 = .ok (.invokestatic 50, 3) := by decide +kernel
theorem dX5_wipe_44 : decode cX5_wipe 44 = .ok (.aload_n 0, 1) := by decide +kernel
theorem dX5_wipe_45 : decode cX5_wipe 45 = .ok (.getfield 27, 3) := by decide +kernel
theorem dX5_wipe_48 : decode cX5_wipe 48 = .ok (.bipush (-9), 2) := by decide +kernel
theorem dX5_wipe_50 : decode cX5_wipe 50 = .ok (.invokestatic 50, 3) := by decide +kernel
theorem dX5_wipe_53 : decode cX5_wipe 53 = .ok (.return_, 1) := by decide +kernel
theorem dX5_redrawFor_0 : decode cX5_redrawFor 0 = .ok (.iload_n 1, 1) := by decide +kernel
theorem dX5_redrawFor_1 : decode cX5_redrawFor 1 = .ok (.iconst 5, 1) := by decide +kernel
theorem dX5_redrawFor_2 : decode cX5_redrawFor 2 = .ok (.if_icmp .eq 4, 3) := by decide +kernel
theorem dX5_redrawFor_5 : decode cX5_redrawFor 5 = .ok (.return_, 1) := by decide +kernel
theorem dX5_redrawFor_6 : decode cX5_redrawFor 6 = .ok (.aload_n 0, 1) := by decide +kernel
theorem dX5_redrawFor_7 : decode cX5_redrawFor 7 = .ok (.invokevirtual 47, 3) := by decide +kernel
theorem dX5_redrawFor_10 : decode cX5_redrawFor 10 = .ok (.aload_n 0, 1) := by decide +kernel
theorem dX5_redrawFor_11 : decode cX5_redrawFor 11 = .ok (.invokevirtual 56, 3) := by decide +kernel
theorem dX5_redrawFor_14 : decode cX5_redrawFor 14 = .ok (.aload_n 0, 1) := by decide +kernel
theorem dX5_redrawFor_15 : decode cX5_redrawFor 15 = .ok (.invokevirtual 59, 3) := by decide +kernel
theorem dX5_redrawFor_18 : decode cX5_redrawFor 18 = .ok (.aload_n 0, 1) := by decide +kernel
theorem dX5_redrawFor_19 : decode cX5_redrawFor 19 = .ok (.invokevirtual 62, 3) := by decide +kernel
theorem dX5_redrawFor_22 : decode cX5_redrawFor 22 = .ok (.return_, 1) := by decide +kernel
theorem dX5_isDrawn_0 : decode cX5_isDrawn 0 = .ok (.aload_n 0, 1) := by decide +kernel
theorem dX5_isDrawn_1 : decode cX5_isDrawn 1 = .ok (.getfield 43, 3) := by decide +kernel
theorem dX5_isDrawn_4 : decode cX5_isDrawn 4 = .ok (.getfield 65, 3) := by decide +kernel
theorem dX5_isDrawn_7 : decode cX5_isDrawn 7 = .ok (.iload_n 1, 1) := by decide +kernel
theorem dX5_isDrawn_8 : decode cX5_isDrawn 8 = .ok (.baload, 1) := by decide +kernel
theorem dX5_isDrawn_9 : decode cX5_isDrawn 9 = .ok (.ifCond .eq 20, 3) := by decide +kernel
theorem dX5_isDrawn_12 : decode cX5_isDrawn 12 = .ok (.aload_n 0, 1) := by decide +kernel
theorem dX5_isDrawn_13 : decode cX5_isDrawn 13 = .ok (.getfield 43, 3) := by decide +kernel
theorem dX5_isDrawn_16 : decode cX5_isDrawn 16 = .ok (.getfield 71, 3) := by decide +kernel
theorem dX5_isDrawn_19 : decode cX5_isDrawn 19 = .ok (.iload_n 1, 1) := by decide +kernel
theorem dX5_isDrawn_20 : decode cX5_isDrawn 20 = .ok (.iaload, 1) := by decide +kernel
theorem dX5_isDrawn_21 : decode cX5_isDrawn 21 = .ok (.iconst 5, 1) := by decide +kernel
theorem dX5_isDrawn_22 : decode cX5_isDrawn 22 = .ok (.if_icmp .ne 7, 3) := by decide +kernel
theorem dX5_isDrawn_25 : decode cX5_isDrawn 25 = .ok (.iconst 1, 1) := by decide +kernel
theorem dX5_isDrawn_26 : decode cX5_isDrawn 26 = .ok (.goto 4, 3) := by decide +kernel
theorem dX5_isDrawn_29 : decode cX5_isDrawn 29 = .ok (.iconst 0, 1) := by decide +kernel
theorem dX5_isDrawn_30 : decode cX5_isDrawn 30 = .ok (.ireturn, 1) := by decide +kernel
theorem dX5_drawSaid_0 : decode cX5_drawSaid 0 = .ok (.iconst 0, 1) := by decide +kernel
theorem dX5_drawSaid_1 : decode cX5_drawSaid 1 = .ok (.istore_n 1, 1) := by decide +kernel
theorem dX5_drawSaid_2 : decode cX5_drawSaid 2 = .ok (.iload_n 1, 1) := by decide +kernel
theorem dX5_drawSaid_3 : decode cX5_drawSaid 3 = .ok (.aload_n 0, 1) := by decide +kernel
theorem dX5_drawSaid_4 : decode cX5_drawSaid 4 = .ok (.getfield 43, 3) := by decide +kernel
theorem dX5_drawSaid_7 : decode cX5_drawSaid 7 = .ok (.getfield 74, 3) := by decide +kernel
theorem dX5_drawSaid_10 : decode cX5_drawSaid 10 = .ok (.if_icmp .ge 70, 3) := by decide +kernel
theorem dX5_drawSaid_13 : decode cX5_drawSaid 13 = .ok (.aload_n 0, 1) := by decide +kernel
theorem dX5_drawSaid_14 : decode cX5_drawSaid 14 = .ok (.iload_n 1, 1) := by decide +kernel
theorem dX5_drawSaid_15 : decode cX5_drawSaid 15 = .ok (.invokevirtual 78, 3) := by decide +kernel
theorem dX5_drawSaid_18 : decode cX5_drawSaid 18 = .ok (.ifCond .eq 56, 3) := by decide +kernel
theorem dX5_drawSaid_21 : decode cX5_drawSaid 21 = .ok (.aload_n 0, 1) := by decide +kernel
theorem dX5_drawSaid_22 : decode cX5_drawSaid 22 = .ok (.getfield 43, 3) := by decide +kernel
theorem dX5_drawSaid_25 : decode cX5_drawSaid 25 = .ok (.getfield 82, 3) := by decide +kernel
theorem dX5_drawSaid_28 : decode cX5_drawSaid 28 = .ok (.iload_n 1, 1) := by decide +kernel
theorem dX5_drawSaid_29 : decode cX5_drawSaid 29 = .ok (.iaload, 1) := by decide +kernel
theorem dX5_drawSaid_30 : decode cX5_drawSaid 30 = .ok (.bipush 10, 2) := by decide +kernel
theorem dX5_drawSaid_32 : decode cX5_drawSaid 32 = .ok (.imul, 1) := by decide +kernel
theorem dX5_drawSaid_33 : decode cX5_drawSaid 33 = .ok (.aload_n 0, 1) := by decide +kernel
theorem dX5_drawSaid_34 : decode cX5_drawSaid 34 = .ok (.getfield 43, 3) := by decide +kernel
theorem dX5_drawSaid_37 : decode cX5_drawSaid 37 = .ok (.getfield 85, 3) := by decide +kernel
theorem dX5_drawSaid_40 : decode cX5_drawSaid 40 = .ok (.iload_n 1, 1) := by decide +kernel
theorem dX5_drawSaid_41 : decode cX5_drawSaid 41 = .ok (.iaload, 1) := by decide +kernel
theorem dX5_drawSaid_42 : decode cX5_drawSaid 42 = .ok (.iadd, 1) := by decide +kernel
theorem dX5_drawSaid_43 : decode cX5_drawSaid 43 = .ok (.istore_n 2, 1) := by decide +kernel
theorem dX5_drawSaid_44 : decode cX5_drawSaid 44 = .ok (.aload_n 0, 1) := by decide +kernel
theorem dX5_drawSaid_45 : decode cX5_drawSaid 45 = .ok (.getfield 18, 3) := by decide +kernel
theorem dX5_drawSaid_48 : decode cX5_drawSaid 48 = .ok (.iload_n 2, 1) := by decide +kernel
theorem dX5_drawSaid_49 : decode cX5_drawSaid 49 = .ok (.iload_n 1, 1) := by decide +kernel
theorem dX5_drawSaid_50 : decode cX5_drawSaid 50 = .ok (.iastore, 1) := by decide +kernel
theorem dX5_drawSaid_51 : decode cX5_drawSaid 51 = .ok (.aload_n 0, 1) := by decide +kernel
theorem dX5_drawSaid_52 : decode cX5_drawSaid 52 = .ok (.iload_n 2, 1) := by decide +kernel
theorem dX5_drawSaid_53 : decode cX5_drawSaid 53 = .ok (.aload_n 0, 1) := by decide +kernel
theorem dX5_drawSaid_54 : decode cX5_drawSaid 54 = .ok (.getfield 43, 3) := by decide +kernel
theorem dX5_drawSaid_57 : decode cX5_drawSaid 57 = .ok (.getfield 82, 3) := by decide +kernel
theorem dX5_drawSaid_60 : decode cX5_drawSaid 60 = .ok (.iload_n 1, 1) := by decide +kernel
theorem dX5_drawSaid_61 : decode cX5_drawSaid 61 = .ok (.iaload, 1) := by decide +kernel
theorem dX5_drawSaid_62 : decode cX5_drawSaid 62 = .ok (.aload_n 0, 1) := by decide +kernel
theorem dX5_drawSaid_63 : decode cX5_drawSaid 63 = .ok (.getfield 43, 3) := by decide +kernel
theorem dX5_drawSaid_66 : decode cX5_drawSaid 66 = .ok (.getfield 88, 3) := by decide +kernel
theorem dX5_drawSaid_69 : decode cX5_drawSaid 69 = .ok (.iload_n 1, 1) := by decide +kernel
theorem dX5_drawSaid_70 : decode cX5_drawSaid 70 = .ok (.iaload, 1) := by decide +kernel
theorem dX5_drawSaid_71 : decode cX5_drawSaid 71 = .ok (.invokevirtual 91, 3) := by decide +kernel
theorem dX5_drawSaid_74 : decode cX5_drawSaid 74 = .ok (.iinc 1 1, 3) := by decide +kernel
theorem dX5_drawSaid_77 : decode cX5_drawSaid 77 = .ok (.goto (-75), 3) := by decide +kernel
theorem dX5_drawSaid_80 : decode cX5_drawSaid 80 = .ok (.return_, 1) := by decide +kernel
theorem dX5_drawTarget_0 : decode cX5_drawTarget 0 = .ok (.aload_n 0, 1) := by decide +kernel
theorem dX5_drawTarget_1 : decode cX5_drawTarget 1 = .ok (.getfield 39, 3) := by decide +kernel
theorem dX5_drawTarget_4 : decode cX5_drawTarget 4 = .ok (.iload_n 3, 1) := by decide +kernel
theorem dX5_drawTarget_5 : decode cX5_drawTarget 5 = .ok (.invokevirtual 95, 3) := by decide +kernel
theorem dX5_drawTarget_8 : decode cX5_drawTarget 8 = .ok (.ifCond .ne 11, 3) := by decide +kernel
theorem dX5_drawTarget_11 : decode cX5_drawTarget 11 = .ok (.aload_n 0, 1) := by decide +kernel
theorem dX5_drawTarget_12 : decode cX5_drawTarget 12 = .ok (.getfield 9, 3) := by decide +kernel
theorem dX5_drawTarget_15 : decode cX5_drawTarget 15 = .ok (.iload_n 1, 1) := by decide +kernel
theorem dX5_drawTarget_16 : decode cX5_drawTarget 16 = .ok (.iload_n 3, 1) := by decide +kernel
theorem dX5_drawTarget_17 : decode cX5_drawTarget 17 = .ok (.iastore, 1) := by decide +kernel
theorem dX5_drawTarget_18 : decode cX5_drawTarget 18 = .ok (.return_, 1) := by decide +kernel
theorem dX5_drawTarget_19 : decode cX5_drawTarget 19 = .ok (.aload_n 0, 1) := by decide +kernel
theorem dX5_drawTarget_20 : decode cX5_drawTarget 20 = .ok (.getfield 15, 3) := by decide +kernel
theorem dX5_drawTarget_23 : decode cX5_drawTarget 23 = .ok (.iload_n 1, 1) := by decide +kernel
theorem dX5_drawTarget_24 : decode cX5_drawTarget 24 = .ok (.iload_n 3, 1) := by decide +kernel
theorem dX5_drawTarget_25 : decode cX5_drawTarget 25 = .ok (.iastore, 1) := by decide +kernel
theorem dX5_drawTarget_26 : decode cX5_drawTarget 26 = .ok (.aload_n 0, 1) := by decide +kernel
theorem dX5_drawTarget_27 : decode cX5_drawTarget 27 = .ok (.getfield 24, 3) := by decide +kernel
theorem dX5_drawTarget_30 : decode cX5_drawTarget 30 = .ok (.iload_n 3, 1) := by decide +kernel
theorem dX5_drawTarget_31 : decode cX5_drawTarget 31 = .ok (.iaload, 1) := by decide +kernel
theorem dX5_drawTarget_32 : decode cX5_drawTarget 32 = .ok (.bipush (-9), 2) := by decide +kernel
theorem dX5_drawTarget_34 : decode cX5_drawTarget 34 = .ok (.if_icmp .ne 13, 3) := by decide +kernel
theorem dX5_drawTarget_37 : decode cX5_drawTarget 37 = .ok (.aload_n 0, 1) := by decide +kernel
theorem dX5_drawTarget_38 : decode cX5_drawTarget 38 = .ok (.getfield 24, 3) := by decide +kernel
theorem dX5_drawTarget_41 : decode cX5_drawTarget 41 = .ok (.iload_n 3, 1) := by decide +kernel
theorem dX5_drawTarget_42 : decode cX5_drawTarget 42 = .ok (.iload_n 2, 1) := by decide +kernel
theorem dX5_drawTarget_43 : decode cX5_drawTarget 43 = .ok (.iastore, 1) := by decide +kernel
theorem dX5_drawTarget_44 : decode cX5_drawTarget 44 = .ok (.goto 10, 3) := by decide +kernel
theorem dX5_drawTarget_47 : decode cX5_drawTarget 47 = .ok (.aload_n 0, 1) := by decide +kernel
theorem dX5_drawTarget_48 : decode cX5_drawTarget 48 = .ok (.getfield 27, 3) := by decide +kernel
theorem dX5_drawTarget_51 : decode cX5_drawTarget 51 = .ok (.iload_n 3, 1) := by decide +kernel
theorem dX5_drawTarget_52 : decode cX5_drawTarget 52 = .ok (.iload_n 2, 1) := by decide +kernel
theorem dX5_drawTarget_53 : decode cX5_drawTarget 53 = .ok (.iastore, 1) := by decide +kernel
theorem dX5_drawTarget_54 : decode cX5_drawTarget 54 = .ok (.return_, 1) := by decide +kernel
theorem dX5_drawImplied_0 : decode cX5_drawImplied 0 = .ok (.iconst 0, 1) := by decide +kernel
theorem dX5_drawImplied_1 : decode cX5_drawImplied 1 = .ok (.istore_n 1, 1) := by decide +kernel
theorem dX5_drawImplied_2 : decode cX5_drawImplied 2 = .ok (.iload_n 1, 1) := by decide +kernel
theorem dX5_drawImplied_3 : decode cX5_drawImplied 3 = .ok (.aload_n 0, 1) := by decide +kernel
theorem dX5_drawImplied_4 : decode cX5_drawImplied 4 = .ok (.getfield 43, 3) := by decide +kernel
theorem dX5_drawImplied_7 : decode cX5_drawImplied 7 = .ok (.getfield 74, 3) := by decide +kernel
theorem dX5_drawImplied_10 : decode cX5_drawImplied 10 = .ok (.if_icmp .ge 101, 3) := by decide +kernel
theorem dX5_drawImplied_13 : decode cX5_drawImplied 13 = .ok (.aload_n 0, 1) := by decide +kernel
theorem dX5_drawImplied_14 : decode cX5_drawImplied 14 = .ok (.iload_n 1, 1) := by decide +kernel
theorem dX5_drawImplied_15 : decode cX5_drawImplied 15 = .ok (.invokevirtual 78, 3) := by decide +kernel
theorem dX5_drawImplied_18 : decode cX5_drawImplied 18 = .ok (.ifCond .eq 87, 3) := by decide +kernel
theorem dX5_drawImplied_21 : decode cX5_drawImplied 21 = .ok (.aload_n 0, 1) := by decide +kernel
theorem dX5_drawImplied_22 : decode cX5_drawImplied 22 = .ok (.getfield 39, 3) := by decide +kernel
theorem dX5_drawImplied_25 : decode cX5_drawImplied 25 = .ok (.aload_n 0, 1) := by decide +kernel
theorem dX5_drawImplied_26 : decode cX5_drawImplied 26 = .ok (.getfield 43, 3) := by decide +kernel
theorem dX5_drawImplied_29 : decode cX5_drawImplied 29 = .ok (.getfield 88, 3) := by decide +kernel
theorem dX5_drawImplied_32 : decode cX5_drawImplied 32 = .ok (.iload_n 1, 1) := by decide +kernel
theorem dX5_drawImplied_33 : decode cX5_drawImplied 33 = .ok (.iaload, 1) := by decide +kernel
theorem dX5_drawImplied_34 : decode cX5_drawImplied 34 = .ok (.invokevirtual 95, 3) := by decide +kernel
theorem dX5_drawImplied_37 : decode cX5_drawImplied 37 = .ok (.ifCond .ne 68, 3) := by decide +kernel
theorem dX5_drawImplied_40 : decode cX5_drawImplied 40 = .ok (.aload_n 0, 1) := by decide +kernel
theorem dX5_drawImplied_41 : decode cX5_drawImplied 41 = .ok (.getfield 43, 3) := by decide +kernel
theorem dX5_drawImplied_44 : decode cX5_drawImplied 44 = .ok (.getfield 88, 3) := by decide +kernel
theorem dX5_drawImplied_47 : decode cX5_drawImplied 47 = .ok (.iload_n 1, 1) := by decide +kernel
theorem dX5_drawImplied_48 : decode cX5_drawImplied 48 = .ok (.iaload, 1) := by decide +kernel
theorem dX5_drawImplied_49 : decode cX5_drawImplied 49 = .ok (.bipush 10, 2) := by decide +kernel
theorem dX5_drawImplied_51 : decode cX5_drawImplied 51 = .ok (.imul, 1) := by decide +kernel
theorem dX5_drawImplied_52 : decode cX5_drawImplied 52 = .ok (.aload_n 0, 1) := by decide +kernel
theorem dX5_drawImplied_53 : decode cX5_drawImplied 53 = .ok (.getfield 43, 3) := by decide +kernel
theorem dX5_drawImplied_56 : decode cX5_drawImplied 56 = .ok (.getfield 85, 3) := by decide +kernel
theorem dX5_drawImplied_59 : decode cX5_drawImplied 59 = .ok (.iload_n 1, 1) := by decide +kernel
theorem dX5_drawImplied_60 : decode cX5_drawImplied 60 = .ok (.iaload, 1) := by decide +kernel
theorem dX5_drawImplied_61 : decode cX5_drawImplied 61 = .ok (.iconst 1, 1) := by decide +kernel
theorem dX5_drawImplied_62 : decode cX5_drawImplied 62 = .ok (.ixor, 1) := by decide +kernel
theorem dX5_drawImplied_63 : decode cX5_drawImplied 63 = .ok (.iadd, 1) := by decide +kernel
theorem dX5_drawImplied_64 : decode cX5_drawImplied 64 = .ok (.istore_n 2, 1) := by decide +kernel
theorem dX5_drawImplied_65 : decode cX5_drawImplied 65 = .ok (.aload_n 0, 1) := by decide +kernel
theorem dX5_drawImplied_66 : decode cX5_drawImplied 66 = .ok (.getfield 18, 3) := by decide +kernel
theorem dX5_drawImplied_69 : decode cX5_drawImplied 69 = .ok (.iload_n 2, 1) := by decide +kernel
theorem dX5_drawImplied_70 : decode cX5_drawImplied 70 = .ok (.iaload, 1) := by decide +kernel
theorem dX5_drawImplied_71 : decode cX5_drawImplied 71 = .ok (.bipush (-9), 2) := by decide +kernel
theorem dX5_drawImplied_73 : decode cX5_drawImplied 73 = .ok (.if_icmp .ne 32, 3) := by decide +kernel
theorem dX5_drawImplied_76 : decode cX5_drawImplied 76 = .ok (.aload_n 0, 1) := by decide +kernel
theorem dX5_drawImplied_77 : decode cX5_drawImplied 77 = .ok (.getfield 18, 3) := by decide +kernel
theorem dX5_drawImplied_80 : decode cX5_drawImplied 80 = .ok (.iload_n 2, 1) := by decide +kernel
theorem dX5_drawImplied_81 : decode cX5_drawImplied 81 = .ok (.iload_n 1, 1) := by decide +kernel
theorem dX5_drawImplied_82 : decode cX5_drawImplied 82 = .ok (.iastore, 1) := by decide +kernel
theorem dX5_drawImplied_83 : decode cX5_drawImplied 83 = .ok (.aload_n 0, 1) := by decide +kernel
theorem dX5_drawImplied_84 : decode cX5_drawImplied 84 = .ok (.getfield 9, 3) := by decide +kernel
theorem dX5_drawImplied_87 : decode cX5_drawImplied 87 = .ok (.iload_n 2, 1) := by decide +kernel
theorem dX5_drawImplied_88 : decode cX5_drawImplied 88 = .ok (.aload_n 0, 1) := by decide +kernel
theorem dX5_drawImplied_89 : decode cX5_drawImplied 89 = .ok (.getfield 43, 3) := by decide +kernel
theorem dX5_drawImplied_92 : decode cX5_drawImplied 92 = .ok (.getfield 82, 3) := by decide +kernel
theorem dX5_drawImplied_95 : decode cX5_drawImplied 95 = .ok (.iload_n 1, 1) := by decide +kernel
theorem dX5_drawImplied_96 : decode cX5_drawImplied 96 = .ok (.iaload, 1) := by decide +kernel
theorem dX5_drawImplied_97 : decode cX5_drawImplied 97 = .ok (.iastore, 1) := by decide +kernel
theorem dX5_drawImplied_98 : decode cX5_drawImplied 98 = .ok (.aload_n 0, 1) := by decide +kernel
theorem dX5_drawImplied_99 : decode cX5_drawImplied 99 = .ok (.getfield 21, 3) := by decide +kernel
theorem dX5_drawImplied_102 : decode cX5_drawImplied 102 = .ok (.iload_n 2, 1) := by decide +kernel
theorem dX5_drawImplied_103 : decode cX5_drawImplied 103 = .ok (.iconst 1, 1) := by decide +kernel
theorem dX5_drawImplied_104 : decode cX5_drawImplied 104 = .ok (.iastore, 1) := by decide +kernel
theorem dX5_drawImplied_105 : decode cX5_drawImplied 105 = .ok (.iinc 1 1, 3) := by decide +kernel
theorem dX5_drawImplied_108 : decode cX5_drawImplied 108 = .ok (.goto (-106), 3) := by decide +kernel
theorem dX5_drawImplied_111 : decode cX5_drawImplied 111 = .ok (.return_, 1) := by decide +kernel
theorem dX5_drawThroughDoors_0 : decode cX5_drawThroughDoors 0 = .ok (.iconst 0, 1) := by decide +kernel
theorem dX5_drawThroughDoors_1 : decode cX5_drawThroughDoors 1 = .ok (.istore_n 1, 1) := by decide +kernel
theorem dX5_drawThroughDoors_2 : decode cX5_drawThroughDoors 2 = .ok (.iload_n 1, 1) := by decide +kernel
theorem dX5_drawThroughDoors_3 : decode cX5_drawThroughDoors 3 = .ok (.aload_n 0, 1) := by decide +kernel
theorem dX5_drawThroughDoors_4 : decode cX5_drawThroughDoors 4 = .ok (.getfield 15, 3) := by decide +kernel
theorem dX5_drawThroughDoors_7 : decode cX5_drawThroughDoors 7 = .ok (.arraylength, 1) := by decide +kernel
theorem dX5_drawThroughDoors_8 : decode cX5_drawThroughDoors 8 = .ok (.if_icmp .ge 66, 3) := by decide +kernel
theorem dX5_drawThroughDoors_11 : decode cX5_drawThroughDoors 11 = .ok (.aload_n 0, 1) := by decide +kernel
theorem dX5_drawThroughDoors_12 : decode cX5_drawThroughDoors 12 = .ok (.getfield 15, 3) := by decide +kernel
theorem dX5_drawThroughDoors_15 : decode cX5_drawThroughDoors 15 = .ok (.iload_n 1, 1) := by decide +kernel
theorem dX5_drawThroughDoors_16 : decode cX5_drawThroughDoors 16 = .ok (.iaload, 1) := by decide +kernel
theorem dX5_drawThroughDoors_17 : decode cX5_drawThroughDoors 17 = .ok (.istore_n 2, 1) := by decide +kernel
theorem dX5_drawThroughDoors_18 : decode cX5_drawThroughDoors 18 = .ok (.iload_n 2, 1) := by decide +kernel
theorem dX5_drawThroughDoors_19 : decode cX5_drawThroughDoors 19 = .ok (.bipush (-9), 2) := by decide +kernel
theorem dX5_drawThroughDoors_21 : decode cX5_drawThroughDoors 21 = .ok (.if_icmp .eq 47, 3) := by decide +kernel
theorem dX5_drawThroughDoors_24 : decode cX5_drawThroughDoors 24 = .ok (.aload_n 0, 1) := by decide +kernel
theorem dX5_drawThroughDoors_25 : decode cX5_drawThroughDoors 25 = .ok (.getfield 24, 3) := by decide +kernel
theorem dX5_drawThroughDoors_28 : decode cX5_drawThroughDoors 28 = .ok (.iload_n 2, 1) := by decide +kernel
theorem dX5_drawThroughDoors_29 : decode cX5_drawThroughDoors 29 = .ok (.iaload, 1) := by decide +kernel
theorem dX5_drawThroughDoors_30 : decode cX5_drawThroughDoors 30 = .ok (.iload_n 1, 1) := by decide +kernel
theorem dX5_drawThroughDoors_31 : decode cX5_drawThroughDoors 31 = .ok (.bipush 10, 2) := by decide +kernel
theorem dX5_drawThroughDoors_33 : decode cX5_drawThroughDoors 33 = .ok (.idiv, 1) := by decide +kernel
theorem dX5_drawThroughDoors_34 : decode cX5_drawThroughDoors 34 = .ok (.if_icmp .ne 7, 3) := by decide +kernel
theorem dX5_drawThroughDoors_37 : decode cX5_drawThroughDoors 37 = .ok (.iconst 1, 1) := by decide +kernel
theorem dX5_drawThroughDoors_38 : decode cX5_drawThroughDoors 38 = .ok (.goto 4, 3) := by decide +kernel
theorem dX5_drawThroughDoors_41 : decode cX5_drawThroughDoors 41 = .ok (.iconst 0, 1) := by decide +kernel
theorem dX5_drawThroughDoors_42 : decode cX5_drawThroughDoors 42 = .ok (.istore_n 3, 1) := by decide +kernel
theorem dX5_drawThroughDoors_43 : decode cX5_drawThroughDoors 43 = .ok (.aload_n 0, 1) := by decide +kernel
theorem dX5_drawThroughDoors_44 : decode cX5_drawThroughDoors 44 = .ok (.getfield 9, 3) := by decide +kernel
theorem dX5_drawThroughDoors_47 : decode cX5_drawThroughDoors 47 = .ok (.iload_n 1, 1) := by decide +kernel
theorem dX5_drawThroughDoors_48 : decode cX5_drawThroughDoors 48 = .ok (.iload_n 3, 1) := by decide +kernel
theorem dX5_drawThroughDoors_49 : decode cX5_drawThroughDoors 49 = .ok (.ifCond .eq 12, 3) := by decide +kernel
theorem dX5_drawThroughDoors_52 : decode cX5_drawThroughDoors 52 = .ok (.aload_n 0, 1) := by decide +kernel
theorem dX5_drawThroughDoors_53 : decode cX5_drawThroughDoors 53 = .ok (.getfield 27, 3) := by decide +kernel
