theorem dX9_doIt_98 : decode cX9_doIt 98 = .ok (.getfield 52, 3) := by decide +kernel
theorem dX9_doIt_101 : decode cX9_doIt 101 = .ok (.iload_n 1, 1) := by decide +kernel
theorem dX9_doIt_102 : decode cX9_doIt 102 = .ok (.iload_n 2, 1) := by decide +kernel
theorem dX9_doIt_103 : decode cX9_doIt 103 = .ok (.iload_n 3, 1) := by decide +kernel
theorem dX9_doIt_104 : decode cX9_doIt 104 = .ok (.invokevirtual 131, 3) := by decide +kernel
theorem dX9_doIt_107 : decode cX9_doIt 107 = .ok (.iastore, 1) := by decide +kernel
theorem dX9_doIt_108 : decode cX9_doIt 108 = .ok (.aload_n 0, 1) := by decide +kernel
theorem dX9_doIt_109 : decode cX9_doIt 109 = .ok (.getfield 43, 3) := by decide +kernel
theorem dX9_doIt_112 : decode cX9_doIt 112 = .ok (.aload_n 0, 1) := by decide +kernel
theorem dX9_doIt_113 : decode cX9_doIt 113 = .ok (.getfield 56, 3) := by decide +kernel
theorem dX9_doIt_116 : decode cX9_doIt 116 = .ok (.invokevirtual 80, 3) := by decide +kernel
theorem dX9_doIt_119 : decode cX9_doIt 119 = .ok (.return_, 1) := by decide +kernel
theorem dX9_undo_0 : decode cX9_undo 0 = .ok (.aload_n 0, 1) := by decide +kernel
theorem dX9_undo_1 : decode cX9_undo 1 = .ok (.dup, 1) := by decide +kernel
theorem dX9_undo_2 : decode cX9_undo 2 = .ok (.getfield 77, 3) := by decide +kernel
theorem dX9_undo_5 : decode cX9_undo 5 = .ok (.iconst 1, 1) := by decide +kernel
theorem dX9_undo_6 : decode cX9_undo 6 = .ok (.isub, 1) := by decide +kernel
theorem dX9_undo_7 : decode cX9_undo 7 = .ok (.putfield 77, 3) := by decide +kernel
theorem dX9_undo_10 : decode cX9_undo 10 = .ok (.aload_n 0, 1) := by decide +kernel
theorem dX9_undo_11 : decode cX9_undo 11 = .ok (.getfield 34, 3) := by decide +kernel
theorem dX9_undo_14 : decode cX9_undo 14 = .ok (.getfield 65, 3) := by decide +kernel
theorem dX9_undo_17 : decode cX9_undo 17 = .ok (.aload_n 0, 1) := by decide +kernel
theorem dX9_undo_18 : decode cX9_undo 18 = .ok (.getfield 15, 3) := by decide +kernel
theorem dX9_undo_21 : decode cX9_undo 21 = .ok (.aload_n 0, 1) := by decide +kernel
theorem dX9_undo_22 : decode cX9_undo 22 = .ok (.getfield 77, 3) := by decide +kernel
theorem dX9_undo_25 : decode cX9_undo 25 = .ok (.iaload, 1) := by decide +kernel
theorem dX9_undo_26 : decode cX9_undo 26 = .ok (.aload_n 0, 1) := by decide +kernel
theorem dX9_undo_27 : decode cX9_undo 27 = .ok (.getfield 18, 3) := by decide +kernel
theorem dX9_undo_30 : decode cX9_undo 30 = .ok (.aload_n 0, 1) := by decide +kernel
theorem dX9_undo_31 : decode cX9_undo 31 = .ok (.getfield 77, 3) := by decide +kernel
theorem dX9_undo_34 : decode cX9_undo 34 = .ok (.iaload, 1) := by decide +kernel
theorem dX9_undo_35 : decode cX9_undo 35 = .ok (.iastore, 1) := by decide +kernel
theorem dX9_undo_36 : decode cX9_undo 36 = .ok (.aload_n 0, 1) := by decide +kernel
theorem dX9_undo_37 : decode cX9_undo 37 = .ok (.getfield 43, 3) := by decide +kernel
theorem dX9_undo_40 : decode cX9_undo 40 = .ok (.aload_n 0, 1) := by decide +kernel
theorem dX9_undo_41 : decode cX9_undo 41 = .ok (.getfield 56, 3) := by decide +kernel
theorem dX9_undo_44 : decode cX9_undo 44 = .ok (.invokevirtual 80, 3) := by decide +kernel
theorem dX9_undo_47 : decode cX9_undo 47 = .ok (.return_, 1) := by decide +kernel
theorem dX9_tellOf_0 : decode cX9_tellOf 0 = .ok (.iload_n 2, 1) := by decide +kernel
theorem dX9_tellOf_1 : decode cX9_tellOf 1 = .ok (.tableswitch 153 0 5 #[39, 50, 61, 92, 123, 138], 39) := by decide +kernel
theorem dX9_tellOf_40 : decode cX9_tellOf 40 = .ok (.aload_n 0, 1) := by decide +kernel
theorem dX9_tellOf_41 : decode cX9_tellOf 41 = .ok (.getfield 34, 3) := by decide +kernel
theorem dX9_tellOf_44 : decode cX9_tellOf 44 = .ok (.iload_n 1, 1) := by decide +kernel
theorem dX9_tellOf_45 : decode cX9_tellOf 45 = .ok (.invokevirtual 134, 3) := by decide +kernel
theorem dX9_tellOf_48 : decode cX9_tellOf 48 = .ok (.goto 114, 3) := by decide +kernel
theorem dX9_tellOf_51 : decode cX9_tellOf 51 = .ok (.aload_n 0, 1) := by decide +kernel
theorem dX9_tellOf_52 : decode cX9_tellOf 52 = .ok (.getfield 34, 3) := by decide +kernel
theorem dX9_tellOf_55 : decode cX9_tellOf 55 = .ok (.iload_n 1, 1) := by decide +kernel
theorem dX9_tellOf_56 : decode cX9_tellOf 56 = .ok (.invokevirtual 137, 3) := by decide +kernel
theorem dX9_tellOf_59 : decode cX9_tellOf 59 = .ok (.goto 103, 3) := by decide +kernel
theorem dX9_tellOf_62 : decode cX9_tellOf 62 = .ok (.aload_n 0, 1) := by decide +kernel
theorem dX9_tellOf_63 : decode cX9_tellOf 63 = .ok (.getfield 21, 3) := by decide +kernel
theorem dX9_tellOf_66 : decode cX9_tellOf 66 = .ok (.iload_n 1, 1) := by decide +kernel
theorem dX9_tellOf_67 : decode cX9_tellOf 67 = .ok (.invokevirtual 140, 3) := by decide +kernel
theorem dX9_tellOf_70 : decode cX9_tellOf 70 = .ok (.ifCond .eq 18, 3) := by decide +kernel
theorem dX9_tellOf_73 : decode cX9_tellOf 73 = .ok (.aload_n 0, 1) := by decide +kernel
theorem dX9_tellOf_74 : decode cX9_tellOf 74 = .ok (.getfield 34, 3) := by decide +kernel
theorem dX9_tellOf_77 : decode cX9_tellOf 77 = .ok (.iload_n 1, 1) := by decide +kernel
theorem dX9_tellOf_78 : decode cX9_tellOf 78 = .ok (.iconst 0, 1) := by decide +kernel
theorem dX9_tellOf_79 : decode cX9_tellOf 79 = .ok (.invokevirtual 143, 3) := by decide +kernel
theorem dX9_tellOf_82 : decode cX9_tellOf 82 = .ok (.invokestatic 146, 3) := by decide +kernel
theorem dX9_tellOf_85 : decode cX9_tellOf 85 = .ok (.goto 77, 3) := by decide +kernel
theorem dX9_tellOf_88 : decode cX9_tellOf 88 = .ok (.bipush (-9), 2) := by decide +kernel
theorem dX9_tellOf_90 : decode cX9_tellOf 90 = .ok (.goto 72, 3) := by decide +kernel
theorem dX9_tellOf_93 : decode cX9_tellOf 93 = .ok (.aload_n 0, 1) := by decide +kernel
theorem dX9_tellOf_94 : decode cX9_tellOf 94 = .ok (.getfield 21, 3) := by decide +kernel
theorem dX9_tellOf_97 : decode cX9_tellOf 97 = .ok (.iload_n 1, 1) := by decide +kernel
theorem dX9_tellOf_98 : decode cX9_tellOf 98 = .ok (.invokevirtual 140, 3) := by decide +kernel
theorem dX9_tellOf_101 : decode cX9_tellOf 101 = .ok (.ifCond .eq 18, 3) := by decide +kernel
theorem dX9_tellOf_104 : decode cX9_tellOf 104 = .ok (.aload_n 0, 1) := by decide +kernel
theorem dX9_tellOf_105 : decode cX9_tellOf 105 = .ok (.getfield 34, 3) := by decide +kernel
theorem dX9_tellOf_108 : decode cX9_tellOf 108 = .ok (.iload_n 1, 1) := by decide +kernel
theorem dX9_tellOf_109 : decode cX9_tellOf 109 = .ok (.iconst 1, 1) := by decide +kernel
theorem dX9_tellOf_110 : decode cX9_tellOf 110 = .ok (.invokevirtual 143, 3) := by decide +kernel
theorem dX9_tellOf_113 : decode cX9_tellOf 113 = .ok (.invokestatic 146, 3) := by decide +kernel
theorem dX9_tellOf_116 : decode cX9_tellOf 116 = .ok (.goto 46, 3) := by decide +kernel
theorem dX9_tellOf_119 : decode cX9_tellOf 119 = .ok (.bipush (-9), 2) := by decide +kernel
theorem dX9_tellOf_121 : decode cX9_tellOf 121 = .ok (.goto 41, 3) := by decide +kernel
theorem dX9_tellOf_124 : decode cX9_tellOf 124 = .ok (.aload_n 0, 1) := by decide +kernel
theorem dX9_tellOf_125 : decode cX9_tellOf 125 = .ok (.getfield 43, 3) := by decide +kernel
theorem dX9_tellOf_128 : decode cX9_tellOf 128 = .ok (.getfield 150, 3) := by decide +kernel
theorem dX9_tellOf_131 : decode cX9_tellOf 131 = .ok (.iload_n 1, 1) := by decide +kernel
theorem dX9_tellOf_132 : decode cX9_tellOf 132 = .ok (.baload, 1) := by decide +kernel
theorem dX9_tellOf_133 : decode cX9_tellOf 133 = .ok (.invokestatic 146, 3) := by decide +kernel
theorem dX9_tellOf_136 : decode cX9_tellOf 136 = .ok (.goto 26, 3) := by decide +kernel
theorem dX9_tellOf_139 : decode cX9_tellOf 139 = .ok (.aload_n 0, 1) := by decide +kernel
theorem dX9_tellOf_140 : decode cX9_tellOf 140 = .ok (.getfield 43, 3) := by decide +kernel
theorem dX9_tellOf_143 : decode cX9_tellOf 143 = .ok (.getfield 154, 3) := by decide +kernel
theorem dX9_tellOf_146 : decode cX9_tellOf 146 = .ok (.iload_n 1, 1) := by decide +kernel
theorem dX9_tellOf_147 : decode cX9_tellOf 147 = .ok (.baload, 1) := by decide +kernel
theorem dX9_tellOf_148 : decode cX9_tellOf 148 = .ok (.invokestatic 146, 3) := by decide +kernel
theorem dX9_tellOf_151 : decode cX9_tellOf 151 = .ok (.goto 11, 3) := by decide +kernel
theorem dX9_tellOf_154 : decode cX9_tellOf 154 = .ok (.aload_n 0, 1) := by decide +kernel
theorem dX9_tellOf_155 : decode cX9_tellOf 155 = .ok (.getfield 34, 3) := by decide +kernel
theorem dX9_tellOf_158 : decode cX9_tellOf 158 = .ok (.iload_n 1, 1) := by decide +kernel
theorem dX9_tellOf_159 : decode cX9_tellOf 159 = .ok (.invokevirtual 157, 3) := by decide +kernel
theorem dX9_tellOf_162 : decode cX9_tellOf 162 = .ok (.ireturn, 1) := by decide +kernel
theorem dX10_init_0 : decode cX10_init 0 = .ok (.aload_n 0, 1) := by decide +kernel
theorem dX10_init_1 : decode cX10_init 1 = .ok (.invokespecial 3, 3) := by decide +kernel
theorem dX10_init_4 : decode cX10_init 4 = .ok (.aload_n 0, 1) := by decide +kernel
theorem dX10_init_5 : decode cX10_init 5 = .ok (.bipush 24, 2) := by decide +kernel
theorem dX10_init_7 : decode cX10_init 7 = .ok (.newarray .int, 2) := by decide +kernel
theorem dX10_init_9 : decode cX10_init 9 = .ok (.putfield 9, 3) := by decide +kernel
theorem dX10_init_12 : decode cX10_init 12 = .ok (.aload_n 0, 1) := by decide +kernel
theorem dX10_init_13 : decode cX10_init 13 = .ok (.bipush 24, 2) := by decide +kernel
theorem dX10_init_15 : decode cX10_init 15 = .ok (.newarray .int, 2) := by decide +kernel
theorem dX10_init_17 : decode cX10_init 17 = .ok (.putfield 15, 3) := by decide +kernel
theorem dX10_init_20 : decode cX10_init 20 = .ok (.aload_n 0, 1) := by decide +kernel
theorem dX10_init_21 : decode cX10_init 21 = .ok (.sipush 144, 3) := by decide +kernel
theorem dX10_init_24 : decode cX10_init 24 = .ok (.newarray .int, 2) := by decide +kernel
theorem dX10_init_26 : decode cX10_init 26 = .ok (.putfield 18, 3) := by decide +kernel
theorem dX10_init_29 : decode cX10_init 29 = .ok (.aload_n 0, 1) := by decide +kernel
theorem dX10_init_30 : decode cX10_init 30 = .ok (.bipush 30, 2) := by decide +kernel
theorem dX10_init_32 : decode cX10_init 32 = .ok (.newarray .int, 2) := by decide +kernel
theorem dX10_init_34 : decode cX10_init 34 = .ok (.putfield 21, 3) := by decide +kernel
theorem dX10_init_37 : decode cX10_init 37 = .ok (.aload_n 0, 1) := by decide +kernel
theorem dX10_init_38 : decode cX10_init 38 = .ok (.bipush 30, 2) := by decide +kernel
theorem dX10_init_40 : decode cX10_init 40 = .ok (.newarray .int, 2) := by decide +kernel
theorem dX10_init_42 : decode cX10_init 42 = .ok (.putfield 24, 3) := by decide +kernel
theorem dX10_init_45 : decode cX10_init 45 = .ok (.aload_n 0, 1) := by decide +kernel
theorem dX10_init_46 : decode cX10_init 46 = .ok (.getfield 18, 3) := by decide +kernel
theorem dX10_init_49 : decode cX10_init 49 = .ok (.bipush (-9), 2) := by decide +kernel
theorem dX10_init_51 : decode cX10_init 51 = .ok (.invokestatic 27, 3) := by decide +kernel
theorem dX10_init_54 : decode cX10_init 54 = .ok (.iconst 0, 1) := by decide +kernel
theorem dX10_init_55 : decode cX10_init 55 = .ok (.istore_n 1, 1) := by decide +kernel
theorem dX10_init_56 : decode cX10_init 56 = .ok (.iload_n 1, 1) := by decide +kernel
theorem dX10_init_57 : decode cX10_init 57 = .ok (.iconst 5, 1) := by decide +kernel
theorem dX10_init_58 : decode cX10_init 58 = .ok (.if_icmp .gt 33, 3) := by decide +kernel
theorem dX10_init_61 : decode cX10_init 61 = .ok (.aload_n 0, 1) := by decide +kernel
theorem dX10_init_62 : decode cX10_init 62 = .ok (.getfield 9, 3) := by decide +kernel
theorem dX10_init_65 : decode cX10_init 65 = .ok (.iload_n 1, 1) := by decide +kernel
theorem dX10_init_66 : decode cX10_init 66 = .ok (.iload_n 1, 1) := by decide +kernel
theorem dX10_init_67 : decode cX10_init 67 = .ok (.iconst 1, 1) := by decide +kernel
theorem dX10_init_68 : decode cX10_init 68 = .ok (.if_icmp .gt 8, 3) := by decide +kernel
theorem dX10_init_71 : decode cX10_init 71 = .ok (.bipush (-9), 2) := by decide +kernel
theorem dX10_init_73 : decode cX10_init 73 = .ok (.goto 4, 3) := by decide +kernel
theorem dX10_init_76 : decode cX10_init 76 = .ok (.iconst 1, 1) := by decide +kernel
theorem dX10_init_77 : decode cX10_init 77 = .ok (.iastore, 1) := by decide +kernel
theorem dX10_init_78 : decode cX10_init 78 = .ok (.aload_n 0, 1) := by decide +kernel
theorem dX10_init_79 : decode cX10_init 79 = .ok (.getfield 15, 3) := by decide +kernel
theorem dX10_init_82 : decode cX10_init 82 = .ok (.iload_n 1, 1) := by decide +kernel
theorem dX10_init_83 : decode cX10_init 83 = .ok (.iload_n 1, 1) := by decide +kernel
theorem dX10_init_84 : decode cX10_init 84 = .ok (.iastore, 1) := by decide +kernel
theorem dX10_init_85 : decode cX10_init 85 = .ok (.iinc 1 1, 3) := by decide +kernel
theorem dX10_init_88 : decode cX10_init 88 = .ok (.goto (-32), 3) := by decide +kernel
theorem dX10_init_91 : decode cX10_init 91 = .ok (.aload_n 0, 1) := by decide +kernel
theorem dX10_init_92 : decode cX10_init 92 = .ok (.bipush 6, 2) := by decide +kernel
theorem dX10_init_94 : decode cX10_init 94 = .ok (.putfield 33, 3) := by decide +kernel
theorem dX10_init_97 : decode cX10_init 97 = .ok (.return_, 1) := by decide +kernel
theorem dX10_hasKind_0 : decode cX10_hasKind 0 = .ok (.iload_n 1, 1) := by decide +kernel
theorem dX10_hasKind_1 : decode cX10_hasKind 1 = .ok (.ifCond .lt 15, 3) := by decide +kernel
theorem dX10_hasKind_4 : decode cX10_hasKind 4 = .ok (.iload_n 1, 1) := by decide +kernel
theorem dX10_hasKind_5 : decode cX10_hasKind 5 = .ok (.aload_n 0, 1) := by decide +kernel
theorem dX10_hasKind_6 : decode cX10_hasKind 6 = .ok (.getfield 33, 3) := by decide +kernel
theorem dX10_hasKind_9 : decode cX10_hasKind 9 = .ok (.if_icmp .ge 7, 3) := by decide +kernel
theorem dX10_hasKind_12 : decode cX10_hasKind 12 = .ok (.iconst 1, 1) := by decide +kernel
theorem dX10_hasKind_13 : decode cX10_hasKind 13 = .ok (.goto 4, 3) := by decide +kernel
theorem dX10_hasKind_16 : decode cX10_hasKind 16 = .ok (.iconst 0, 1) := by decide +kernel
theorem dX10_hasKind_17 : decode cX10_hasKind 17 = .ok (.ireturn, 1) := by decide +kernel
theorem dX10_hasObject_0 : decode cX10_hasObject 0 = .ok (.iload_n 1, 1) := by decide +kernel
theorem dX10_hasObject_1 : decode cX10_hasObject 1 = .ok (.ifCond .lt 15, 3) := by decide +kernel
theorem dX10_hasObject_4 : decode cX10_hasObject 4 = .ok (.iload_n 1, 1) := by decide +kernel
theorem dX10_hasObject_5 : decode cX10_hasObject 5 = .ok (.aload_n 0, 1) := by decide +kernel
theorem dX10_hasObject_6 : decode cX10_hasObject 6 = .ok (.getfield 37, 3) := by decide +kernel
theorem dX10_hasObject_9 : decode cX10_hasObject 9 = .ok (.if_icmp .ge 7, 3) := by decide +kernel
theorem dX10_hasObject_12 : decode cX10_hasObject 12 = .ok (.iconst 1, 1) := by decide +kernel
theorem dX10_hasObject_13 : decode cX10_hasObject 13 = .ok (.goto 4, 3) := by decide +kernel
theorem dX10_hasObject_16 : decode cX10_hasObject 16 = .ok (.iconst 0, 1) := by decide +kernel
theorem dX10_hasObject_17 : decode cX10_hasObject 17 = .ok (.ireturn, 1) := by decide +kernel
theorem dX10_addKind_0 : decode cX10_addKind 0 = .ok (.aload_n 0, 1) := by decide +kernel
theorem dX10_addKind_1 : decode cX10_addKind 1 = .ok (.getfield 9, 3) := by decide +kernel
theorem dX10_addKind_4 : decode cX10_addKind 4 = .ok (.aload_n 0, 1) := by decide +kernel
theorem dX10_addKind_5 : decode cX10_addKind 5 = .ok (.getfield 33, 3) := by decide +kernel
theorem dX10_addKind_8 : decode cX10_addKind 8 = .ok (.iload_n 1, 1) := by decide +kernel
theorem dX10_addKind_9 : decode cX10_addKind 9 = .ok (.iastore, 1) := by decide +kernel
theorem dX10_addKind_10 : decode cX10_addKind 10 = .ok (.aload_n 0, 1) := by decide +kernel
theorem dX10_addKind_11 : decode cX10_addKind 11 = .ok (.getfield 15, 3) := by decide +kernel
theorem dX10_addKind_14 : decode cX10_addKind 14 = .ok (.aload_n 0, 1) := by decide +kernel
theorem dX10_addKind_15 : decode cX10_addKind 15 = .ok (.getfield 33, 3) := by decide +kernel
theorem dX10_addKind_18 : decode cX10_addKind 18 = .ok (.aload_n 0, 1) := by decide +kernel
theorem dX10_addKind_19 : decode cX10_addKind 19 = .ok (.getfield 15, 3) := by decide +kernel
theorem dX10_addKind_22 : decode cX10_addKind 22 = .ok (.iload_n 1, 1) := by decide +kernel
theorem dX10_addKind_23 : decode cX10_addKind 23 = .ok (.iaload, 1) := by decide +kernel
theorem dX10_addKind_24 : decode cX10_addKind 24 = .ok (.iastore, 1) := by decide +kernel
theorem dX10_addKind_25 : decode cX10_addKind 25 = .ok (.aload_n 0, 1) := by decide +kernel
theorem dX10_addKind_26 : decode cX10_addKind 26 = .ok (.dup, 1) := by decide +kernel
theorem dX10_addKind_27 : decode cX10_addKind 27 = .ok (.getfield 33, 3) := by decide +kernel
theorem dX10_addKind_30 : decode cX10_addKind 30 = .ok (.dup_x1, 1) := by decide +kernel
theorem dX10_addKind_31 : decode cX10_addKind 31 = .ok (.iconst 1, 1) := by decide +kernel
theorem dX10_addKind_32 : decode cX10_addKind 32 = .ok (.iadd, 1) := by decide +kernel
theorem dX10_addKind_33 : decode cX10_addKind 33 = .ok (.putfield 33, 3) := by decide +kernel
theorem dX10_addKind_36 : decode cX10_addKind 36 = .ok (.ireturn, 1) := by decide +kernel
theorem dX10_addObject_0 : decode cX10_addObject 0 = .ok (.aload_n 0, 1) := by decide +kernel
theorem dX10_addObject_1 : decode cX10_addObject 1 = .ok (.getfield 21, 3) := by decide +kernel
theorem dX10_addObject_4 : decode cX10_addObject 4 = .ok (.aload_n 0, 1) := by decide +kernel
theorem dX10_addObject_5 : decode cX10_addObject 5 = .ok (.getfield 37, 3) := by decide +kernel
theorem dX10_addObject_8 : decode cX10_addObject 8 = .ok (.iload_n 1, 1) := by decide +kernel
theorem dX10_addObject_9 : decode cX10_addObject 9 = .ok (.iastore, 1) := by decide +kernel
theorem dX10_addObject_10 : decode cX10_addObject 10 = .ok (.aload_n 0, 1) := by decide +kernel
theorem dX10_addObject_11 : decode cX10_addObject 11 = .ok (.getfield 24, 3) := by decide +kernel
theorem dX10_addObject_14 : decode cX10_addObject 14 = .ok (.aload_n 0, 1) := by decide +kernel
theorem dX10_addObject_15 : decode cX10_addObject 15 = .ok (.getfield 37, 3) := by decide +kernel
theorem dX10_addObject_18 : decode cX10_addObject 18 = .ok (.iload_n 2, 1) := by decide +kernel
theorem dX10_addObject_19 : decode cX10_addObject 19 = .ok (.iastore, 1) := by decide +kernel
theorem dX10_addObject_20 : decode cX10_addObject 20 = .ok (.aload_n 0, 1) := by decide +kernel
theorem dX10_addObject_21 : decode cX10_addObject 21 = .ok (.dup, 1) := by decide +kernel
theorem dX10_addObject_22 : decode cX10_addObject 22 = .ok (.getfield 37, 3) := by decide +kernel
theorem dX10_addObject_25 : decode cX10_addObject 25 = .ok (.dup_x1, 1) := by decide +kernel
theorem dX10_addObject_26 : decode cX10_addObject 26 = .ok (.iconst 1, 1) := by decide +kernel
theorem dX10_addObject_27 : decode cX10_addObject 27 = .ok (.iadd, 1) := by decide +kernel
theorem dX10_addObject_28 : decode cX10_addObject 28 = .ok (.putfield 37, 3) := by decide +kernel
theorem dX10_addObject_31 : decode cX10_addObject 31 = .ok (.ireturn, 1) := by decide +kernel
theorem dX10_changeStandard_0 : decode cX10_changeStandard 0 = .ok (.aload_n 0, 1) := by decide +kernel
theorem dX10_changeStandard_1 : decode cX10_changeStandard 1 = .ok (.getfield 18, 3) := by decide +kernel
theorem dX10_changeStandard_4 : decode cX10_changeStandard 4 = .ok (.iload_n 1, 1) := by decide +kernel
theorem dX10_changeStandard_5 : decode cX10_changeStandard 5 = .ok (.bipush 6, 2) := by decide +kernel
theorem dX10_changeStandard_7 : decode cX10_changeStandard 7 = .ok (.imul, 1) := by decide +kernel
theorem dX10_changeStandard_8 : decode cX10_changeStandard 8 = .ok (.iload_n 2, 1) := by decide +kernel
theorem dX10_changeStandard_9 : decode cX10_changeStandard 9 = .ok (.iadd, 1) := by decide +kernel
theorem dX10_changeStandard_10 : decode cX10_changeStandard 10 = .ok (.iaload, 1) := by decide +kernel
theorem dX10_changeStandard_11 : decode cX10_changeStandard 11 = .ok (.istore 4, 2) := by decide +kernel
theorem dX10_changeStandard_13 : decode cX10_changeStandard 13 = .ok (.aload_n 0, 1) := by decide +kernel
theorem dX10_changeStandard_14 : decode cX10_changeStandard 14 = .ok (.getfield 18, 3) := by decide +kernel
theorem dX10_changeStandard_17 : decode cX10_changeStandard 17 = .ok (.iload_n 1, 1) := by decide +kernel
theorem dX10_changeStandard_18 : decode cX10_changeStandard 18 = .ok (.bipush 6, 2) := by decide +kernel
theorem dX10_changeStandard_20 : decode cX10_changeStandard 20 = .ok (.imul, 1) := by decide +kernel
theorem dX10_changeStandard_21 : decode cX10_changeStandard 21 = .ok (.iload_n 2, 1) := by decide +kernel
theorem dX10_changeStandard_22 : decode cX10_changeStandard 22 = .ok (.iadd, 1) := by decide +kernel
theorem dX10_changeStandard_23 : decode cX10_changeStandard 23 = .ok (.iload_n 3, 1) := by decide +kernel
theorem dX10_changeStandard_24 : decode cX10_changeStandard 24 = .ok (.iastore, 1) := by decide +kernel
theorem dX10_changeStandard_25 : decode cX10_changeStandard 25 = .ok (.iload 4, 2) := by decide +kernel
theorem dX10_changeStandard_27 : decode cX10_changeStandard 27 = .ok (.ireturn, 1) := by decide +kernel
theorem dX10_kindIs_0 : decode cX10_kindIs 0 = .ok (.iload_n 1, 1) := by decide +kernel
theorem dX10_kindIs_1 : decode cX10_kindIs 1 = .ok (.istore_n 3, 1) := by decide +kernel
theorem dX10_kindIs_2 : decode cX10_kindIs 2 = .ok (.iconst 0, 1) := by decide +kernel
theorem dX10_kindIs_3 : decode cX10_kindIs 3 = .ok (.istore 4, 2) := by decide +kernel
theorem dX10_kindIs_5 : decode cX10_kindIs 5 = .ok (.iload 4, 2) := by decide +kernel
theorem dX10_kindIs_7 : decode cX10_kindIs 7 = .ok (.bipush 24, 2) := by decide +kernel
theorem dX10_kindIs_9 : decode cX10_kindIs 9 = .ok (.if_icmp .ge 29, 3) := by decide +kernel
theorem dX10_kindIs_12 : decode cX10_kindIs 12 = .ok (.iload_n 3, 1) := by decide +kernel
theorem dX10_kindIs_13 : decode cX10_kindIs 13 = .ok (.bipush (-9), 2) := by decide +kernel
theorem dX10_kindIs_15 : decode cX10_kindIs 15 = .ok (.if_icmp .eq 23, 3) := by decide +kernel
theorem dX10_kindIs_18 : decode cX10_kindIs 18 = .ok (.iload_n 3, 1) := by decide +kernel
theorem dX10_kindIs_19 : decode cX10_kindIs 19 = .ok (.iload_n 2, 1) := by decide +kernel
theorem dX10_kindIs_20 : decode cX10_kindIs 20 = .ok (.if_icmp .ne 5, 3) := by decide +kernel
theorem dX10_kindIs_23 : decode cX10_kindIs 23 = .ok (.iconst 1, 1) := by decide +kernel
theorem dX10_kindIs_24 : decode cX10_kindIs 24 = .ok (.ireturn, 1) := by decide +kernel
theorem dX10_kindIs_25 : decode cX10_kindIs 25 = .ok (.aload_n 0, 1) := by decide +kernel
theorem dX10_kindIs_26 : decode cX10_kindIs 26 = .ok (.getfield 9, 3) := by decide +kernel
theorem dX10_kindIs_29 : decode cX10_kindIs 29 = .ok (.iload_n 3, 1) := by decide +kernel
theorem dX10_kindIs_30 : decode cX10_kindIs 30 = .ok (.iaload, 1) := by decide +kernel
theorem dX10_kindIs_31 : decode cX10_kindIs 31 = .ok (.istore_n 3, 1) := by decide +kernel
theorem dX10_kindIs_32 : decode cX10_kindIs 32 = .ok (.iinc 4 1, 3) := by decide +kernel
theorem dX10_kindIs_35 : decode cX10_kindIs 35 = .ok (.goto (-30), 3) := by decide +kernel
theorem dX10_kindIs_38 : decode cX10_kindIs 38 = .ok (.iconst 0, 1) := by decide +kernel
theorem dX10_kindIs_39 : decode cX10_kindIs 39 = .ok (.ireturn, 1) := by decide +kernel
theorem dX10_sortOf_0 : decode cX10_sortOf 0 = .ok (.iload_n 1, 1) := by decide +kernel
theorem dX10_sortOf_1 : decode cX10_sortOf 1 = .ok (.ifCond .lt 25, 3) := by decide +kernel
theorem dX10_sortOf_4 : decode cX10_sortOf 4 = .ok (.iload_n 1, 1) := by decide +kernel
theorem dX10_sortOf_5 : decode cX10_sortOf 5 = .ok (.aload_n 0, 1) := by decide +kernel
theorem dX10_sortOf_6 : decode cX10_sortOf 6 = .ok (.getfield 37, 3) := by decide +kernel
theorem dX10_sortOf_9 : decode cX10_sortOf 9 = .ok (.if_icmp .ge 17, 3) := by decide +kernel
theorem dX10_sortOf_12 : decode cX10_sortOf 12 = .ok (.aload_n 0, 1) := by decide +kernel
theorem dX10_sortOf_13 : decode cX10_sortOf 13 = .ok (.getfield 15, 3) := by decide +kernel
theorem dX10_sortOf_16 : decode cX10_sortOf 16 = .ok (.aload_n 0, 1) := by decide +kernel
theorem dX10_sortOf_17 : decode cX10_sortOf 17 = .ok (.getfield 21, 3) := by decide +kernel
theorem dX10_sortOf_20 : decode cX10_sortOf 20 = .ok (.iload_n 1, 1) := by decide +kernel
theorem dX10_sortOf_21 : decode cX10_sortOf 21 = .ok (.iaload, 1) := by decide +kernel
theorem dX10_sortOf_22 : decode cX10_sortOf 22 = .ok (.iaload, 1) := by decide +kernel
theorem dX10_sortOf_23 : decode cX10_sortOf 23 = .ok (.goto 5, 3) := by decide +kernel
theorem dX10_sortOf_26 : decode cX10_sortOf 26 = .ok (.bipush (-9), 2) := by decide +kernel
theorem dX10_sortOf_28 : decode cX10_sortOf 28 = .ok (.ireturn, 1) := by decide +kernel
theorem dX10_isOfSort_0 : decode cX10_isOfSort 0 = .ok (.aload_n 0, 1) := by decide +kernel
theorem dX10_isOfSort_1 : decode cX10_isOfSort 1 = .ok (.iload_n 1, 1) := by decide +kernel
theorem dX10_isOfSort_2 : decode cX10_isOfSort 2 = .ok (.invokevirtual 40, 3) := by decide +kernel
theorem dX10_isOfSort_5 : decode cX10_isOfSort 5 = .ok (.istore_n 3, 1) := by decide +kernel
theorem dX10_isOfSort_6 : decode cX10_isOfSort 6 = .ok (.iload_n 3, 1) := by decide +kernel
theorem dX10_isOfSort_7 : decode cX10_isOfSort 7 = .ok (.iload_n 2, 1) := by decide +kernel
theorem dX10_isOfSort_8 : decode cX10_isOfSort 8 = .ok (.if_icmp .eq 13, 3) := by decide +kernel
theorem dX10_isOfSort_11 : decode cX10_isOfSort 11 = .ok (.iload_n 2, 1) := by decide +kernel
theorem dX10_isOfSort_12 : decode cX10_isOfSort 12 = .ok (.iconst 1, 1) := by decide +kernel
theorem dX10_isOfSort_13 : decode cX10_isOfSort 13 = .ok (.if_icmp .ne 12, 3) := by decide +kernel
theorem dX10_isOfSort_16 : decode cX10_isOfSort 16 = .ok (.iload_n 3, 1) := by decide +kernel
theorem dX10_isOfSort_17 : decode cX10_isOfSort 17 = .ok (.iconst 1, 1) := by decide +kernel
theorem dX10_isOfSort_18 : decode cX10_isOfSort 18 = .ok (.if_icmp .le 7, 3) := by decide +kernel
theorem dX10_isOfSort_21 : decode cX10_isOfSort 21 = .ok (.iconst 1, 1) := by decide +kernel
theorem dX10_isOfSort_22 : decode cX10_isOfSort 22 = .ok (.goto 4, 3) := by decide +kernel
theorem dX10_isOfSort_25 : decode cX10_isOfSort 25 = .ok (.iconst 0, 1) := by decide +kernel
theorem dX10_isOfSort_26 : decode cX10_isOfSort 26 = .ok (.ireturn, 1) := by decide +kernel
theorem dX10_isMovable_0 : decode cX10_isMovable 0 = .ok (.aload_n 0, 1) := by decide +kernel
theorem dX10_isMovable_1 : decode cX10_isMovable 1 = .ok (.iload_n 1, 1) := by decide +kernel
theorem dX10_isMovable_2 : decode cX10_isMovable 2 = .ok (.invokevirtual 40, 3) := by decide +kernel
theorem dX10_isMovable_5 : decode cX10_isMovable 5 = .ok (.istore_n 2, 1) := by decide +kernel
theorem dX10_isMovable_6 : decode cX10_isMovable 6 = .ok (.iload_n 2, 1) := by decide +kernel
theorem dX10_isMovable_7 : decode cX10_isMovable 7 = .ok (.iconst 1, 1) := by decide +kernel
theorem dX10_isMovable_8 : decode cX10_isMovable 8 = .ok (.if_icmp .eq 8, 3) := by decide +kernel
theorem dX10_isMovable_11 : decode cX10_isMovable 11 = .ok (.iload_n 2, 1) := by decide +kernel
theorem dX10_isMovable_12 : decode cX10_isMovable 12 = .ok (.iconst 3, 1) := by decide +kernel
theorem dX10_isMovable_13 : decode cX10_isMovable 13 = .ok (.if_icmp .lt 7, 3) := by decide +kernel
theorem dX10_isMovable_16 : decode cX10_isMovable 16 = .ok (.iconst 1, 1) := by decide +kernel
theorem dX10_isMovable_17 : decode cX10_isMovable 17 = .ok (.goto 4, 3) := by decide +kernel
theorem dX10_isMovable_20 : decode cX10_isMovable 20 = .ok (.iconst 0, 1) := by decide +kernel
theorem dX10_isMovable_21 : decode cX10_isMovable 21 = .ok (.ireturn, 1) := by decide +kernel
theorem dX10_isGoods_0 : decode cX10_isGoods 0 = .ok (.aload_n 0, 1) := by decide +kernel
theorem dX10_isGoods_1 : decode cX10_isGoods 1 = .ok (.iload_n 1, 1) := by decide +kernel
theorem dX10_isGoods_2 : decode cX10_isGoods 2 = .ok (.invokevirtual 44, 3) := by decide +kernel
theorem dX10_isGoods_5 : decode cX10_isGoods 5 = .ok (.ifCond .eq 16, 3) := by decide +kernel
theorem dX10_isGoods_8 : decode cX10_isGoods 8 = .ok (.aload_n 0, 1) := by decide +kernel
theorem dX10_isGoods_9 : decode cX10_isGoods 9 = .ok (.iload_n 1, 1) := by decide +kernel
theorem dX10_isGoods_10 : decode cX10_isGoods 10 = .ok (.invokevirtual 40, 3) := by decide +kernel
theorem dX10_isGoods_13 : decode cX10_isGoods 13 = .ok (.iconst 5, 1) := by decide +kernel
theorem dX10_isGoods_14 : decode cX10_isGoods 14 = .ok (.if_icmp .eq 7, 3) := by decide +kernel
theorem dX10_isGoods_17 : decode cX10_isGoods 17 = .ok (.iconst 1, 1) := by decide +kernel
theorem dX10_isGoods_18 : decode cX10_isGoods 18 = .ok (.goto 4, 3) := by decide +kernel
theorem dX10_isGoods_21 : decode cX10_isGoods 21 = .ok (.iconst 0, 1) := by decide +kernel
theorem dX10_isGoods_22 : decode cX10_isGoods 22 = .ok (.ireturn, 1) := by decide +kernel
theorem dX10_isShutter_0 : decode cX10_isShutter 0 = .ok (.aload_n 0, 1) := by decide +kernel
theorem dX10_isShutter_1 : decode cX10_isShutter 1 = .ok (.iload_n 1, 1) := by decide +kernel
theorem dX10_isShutter_2 : decode cX10_isShutter 2 = .ok (.invokevirtual 40, 3) := by decide +kernel
theorem dX10_isShutter_5 : decode cX10_isShutter 5 = .ok (.istore_n 2, 1) := by decide +kernel
theorem dX10_isShutter_6 : decode cX10_isShutter 6 = .ok (.iload_n 2, 1) := by decide +kernel
theorem dX10_isShutter_7 : decode cX10_isShutter 7 = .ok (.iconst 2, 1) := by decide +kernel
theorem dX10_isShutter_8 : decode cX10_isShutter 8 = .ok (.if_icmp .eq 8, 3) := by decide +kernel
theorem dX10_isShutter_11 : decode cX10_isShutter 11 = .ok (.iload_n 2, 1) := by decide +kernel
theorem dX10_isShutter_12 : decode cX10_isShutter 12 = .ok (.iconst 3, 1) := by decide +kernel
theorem dX10_isShutter_13 : decode cX10_isShutter 13 = .ok (.if_icmp .ne 7, 3) := by decide +kernel
theorem dX10_isShutter_16 : decode cX10_isShutter 16 = .ok (.iconst 1, 1) := by decide +kernel
theorem dX10_isShutter_17 : decode cX10_isShutter 17 = .ok (.goto 4, 3) := by decide +kernel
theorem dX10_isShutter_20 : decode cX10_isShutter 20 = .ok (.iconst 0, 1) := by decide +kernel
theorem dX10_isShutter_21 : decode cX10_isShutter 21 = .ok (.ireturn, 1) := by decide +kernel
theorem dX10_canHave_0 : decode cX10_canHave 0 = .ok (.iload_n 2, 1) := by decide +kernel
theorem dX10_canHave_1 : decode cX10_canHave 1 = .ok (.tableswitch 80 0 5 #[39, 39, 80, 47, 55, 63], 39) := by decide +kernel
theorem dX10_canHave_40 : decode cX10_canHave 40 = .ok (.aload_n 0, 1) := by decide +kernel
theorem dX10_canHave_41 : decode cX10_canHave 41 = .ok (.iload_n 1, 1) := by decide +kernel
theorem dX10_canHave_42 : decode cX10_canHave 42 = .ok (.invokevirtual 48, 3) := by decide +kernel
theorem dX10_canHave_45 : decode cX10_canHave 45 = .ok (.goto 37, 3) := by decide +kernel
theorem dX10_canHave_48 : decode cX10_canHave 48 = .ok (.aload_n 0, 1) := by decide +kernel
theorem dX10_canHave_49 : decode cX10_canHave 49 = .ok (.iload_n 1, 1) := by decide +kernel
theorem dX10_canHave_50 : decode cX10_canHave 50 = .ok (.invokevirtual 44, 3) := by decide +kernel
theorem dX10_canHave_53 : decode cX10_canHave 53 = .ok (.goto 29, 3) := by decide +kernel
theorem dX10_canHave_56 : decode cX10_canHave 56 = .ok (.aload_n 0, 1) := by decide +kernel
theorem dX10_canHave_57 : decode cX10_canHave 57 = .ok (.iload_n 1, 1) := by decide +kernel
theorem dX10_canHave_58 : decode cX10_canHave 58 = .ok (.invokevirtual 51, 3) := by decide +kernel
theorem dX10_canHave_61 : decode cX10_canHave 61 = .ok (.goto 21, 3) := by decide +kernel
theorem dX10_canHave_64 : decode cX10_canHave 64 = .ok (.aload_n 0, 1) := by decide +kernel
theorem dX10_canHave_65 : decode cX10_canHave 65 = .ok (.iload_n 1, 1) := by decide +kernel
theorem dX10_canHave_66 : decode cX10_canHave 66 = .ok (.invokevirtual 40, 3) := by decide +kernel
theorem dX10_canHave_69 : decode cX10_canHave 69 = .ok (.iconst 3, 1) := by decide +kernel
theorem dX10_canHave_70 : decode cX10_canHave 70 = .ok (.if_icmp .ne 7, 3) := by decide +kernel
theorem dX10_canHave_73 : decode cX10_canHave 73 = .ok (.iconst 1, 1) := by decide +kernel
theorem dX10_canHave_74 : decode cX10_canHave 74 = .ok (.goto 8, 3) := by decide +kernel
theorem dX10_canHave_77 : decode cX10_canHave 77 = .ok (.iconst 0, 1) := by decide +kernel
theorem dX10_canHave_78 : decode cX10_canHave 78 = .ok (.goto 4, 3) := by decide +kernel
theorem dX10_canHave_81 : decode cX10_canHave 81 = .ok (.iconst 1, 1) := by decide +kernel
theorem dX10_canHave_82 : decode cX10_canHave 82 = .ok (.ireturn, 1) := by decide +kernel
theorem dX10_standardFor_0 : decode cX10_standardFor 0 = .ok (.aload_n 0, 1) := by decide +kernel
theorem dX10_standardFor_1 : decode cX10_standardFor 1 = .ok (.getfield 21, 3) := by decide +kernel
theorem dX10_standardFor_4 : decode cX10_standardFor 4 = .ok (.iload_n 1, 1) := by decide +kernel
theorem dX10_standardFor_5 : decode cX10_standardFor 5 = .ok (.iaload, 1) := by decide +kernel
theorem dX10_standardFor_6 : decode cX10_standardFor 6 = .ok (.istore_n 3, 1) := by decide +kernel
theorem dX10_standardFor_7 : decode cX10_standardFor 7 = .ok (.iconst 0, 1) := by decide +kernel
theorem dX10_standardFor_8 : decode cX10_standardFor 8 = .ok (.istore 4, 2) := by decide +kernel
theorem dX10_standardFor_10 : decode cX10_standardFor 10 = .ok (.iload 4, 2) := by decide +kernel
theorem dX10_standardFor_12 : decode cX10_standardFor 12 = .ok (.bipush 24, 2) := by decide +kernel
theorem dX10_standardFor_14 : decode cX10_standardFor 14 = .ok (.if_icmp .ge 45, 3) := by decide +kernel
theorem dX10_standardFor_17 : decode cX10_standardFor 17 = .ok (.iload_n 3, 1) := by decide +kernel
theorem dX10_standardFor_18 : decode cX10_standardFor 18 = .ok (.bipush (-9), 2) := by decide +kernel
theorem dX10_standardFor_20 : decode cX10_standardFor 20 = .ok (.if_icmp .eq 39, 3) := by decide +kernel
theorem dX10_standardFor_23 : decode cX10_standardFor 23 = .ok (.aload_n 0, 1) := by decide +kernel
theorem dX10_standardFor_24 : decode cX10_standardFor 24 = .ok (.getfield 18, 3) := by decide +kernel
theorem dX10_standardFor_27 : decode cX10_standardFor 27 = .ok (.iload_n 3, 1) := by decide +kernel
theorem dX10_standardFor_28 : decode cX10_standardFor 28 = .ok (.bipush 6, 2) := by decide +kernel
theorem dX10_standardFor_30 : decode cX10_standardFor 30 = .ok (.imul, 1) := by decide +kernel
theorem dX10_standardFor_31 : decode cX10_standardFor 31 = .ok (.iload_n 2, 1) := by decide +kernel
theorem dX10_standardFor_32 : decode cX10_standardFor 32 = .ok (.iadd, 1) := by decide +kernel
theorem dX10_standardFor_33 : decode cX10_standardFor 33 = .ok (.iaload, 1) := by decide +kernel
theorem dX10_standardFor_34 : decode cX10_standardFor 34 = .ok (.istore 5, 2) := by decide +kernel
theorem dX10_standardFor_36 : decode cX10_standardFor 36 = .ok (.iload 5, 2) := by decide +kernel
theorem dX10_standardFor_38 : decode cX10_standardFor 38 = .ok (.bipush (-9), 2) := by decide +kernel
theorem dX10_standardFor_40 : decode cX10_standardFor 40 = .ok (.if_icmp .eq 6, 3) := by decide +kernel
theorem dX10_standardFor_43 : decode cX10_standardFor 43 = .ok (.iload 5, 2) := by decide +kernel
theorem dX10_standardFor_45 : decode cX10_standardFor 45 = .ok (.ireturn, 1) := by decide +kernel
theorem dX10_standardFor_46 : decode cX10_standardFor 46 = .ok (.aload_n 0, 1) := by decide +kernel
theorem dX10_standardFor_47 : decode cX10_standardFor 47 = .ok (.getfield 9, 3) := by decide +kernel
theorem dX10_standardFor_50 : decode cX10_standardFor 50 = .ok (.iload_n 3, 1) := by decide +kernel
theorem dX10_standardFor_51 : decode cX10_standardFor 51 = .ok (.iaload, 1) := by decide +kernel
theorem dX10_standardFor_52 : decode cX10_standardFor 52 = .ok (.istore_n 3, 1) := by decide +kernel
theorem dX10_standardFor_53 : decode cX10_standardFor 53 = .ok (.iinc 4 1, 3) := by decide +kernel
theorem dX10_standardFor_56 : decode cX10_standardFor 56 = .ok (.goto (-46), 3) := by decide +kernel
theorem dX10_standardFor_59 : decode cX10_standardFor 59 = .ok (.iload_n 2, 1) := by decide +kernel
theorem dX10_standardFor_60 : decode cX10_standardFor 60 = .ok (.iconst 2, 1) := by decide +kernel
theorem dX10_standardFor_61 : decode cX10_standardFor 61 = .ok (.if_icmp .ne 15, 3) := by decide +kernel
theorem dX10_standardFor_64 : decode cX10_standardFor 64 = .ok (.aload_n 0, 1) := by decide +kernel
theorem dX10_standardFor_65 : decode cX10_standardFor 65 = .ok (.iload_n 1, 1) := by decide +kernel
theorem dX10_standardFor_66 : decode cX10_standardFor 66 = .ok (.invokevirtual 40, 3) := by decide +kernel
theorem dX10_standardFor_69 : decode cX10_standardFor 69 = .ok (.ifCond .ne 7, 3) := by decide +kernel
theorem dX10_standardFor_72 : decode cX10_standardFor 72 = .ok (.iconst 1, 1) := by decide +kernel
theorem dX10_standardFor_73 : decode cX10_standardFor 73 = .ok (.goto 4, 3) := by decide +kernel
theorem dX10_standardFor_76 : decode cX10_standardFor 76 = .ok (.iconst 0, 1) := by decide +kernel
theorem dX10_standardFor_77 : decode cX10_standardFor 77 = .ok (.ireturn, 1) := by decide +kernel
theorem dX11_init_0 : decode cX11_init 0 = .ok (.aload_n 0, 1) := by decide +kernel
theorem dX11_init_1 : decode cX11_init 1 = .ok (.invokespecial 1, 3) := by decide +kernel
theorem dX11_init_4 : decode cX11_init 4 = .ok (.aload_n 0, 1) := by decide +kernel
theorem dX11_init_5 : decode cX11_init 5 = .ok (.new 7, 3) := by decide +kernel
theorem dX11_init_8 : decode cX11_init 8 = .ok (.dup, 1) := by decide +kernel
theorem dX11_init_9 : decode cX11_init 9 = .ok (.invokespecial 9, 3) := by decide +kernel
theorem dX11_init_12 : decode cX11_init 12 = .ok (.putfield 10, 3) := by decide +kernel
theorem dX11_init_15 : decode cX11_init 15 = .ok (.aload_n 0, 1) := by decide +kernel
theorem dX11_init_16 : decode cX11_init 16 = .ok (.new 16, 3) := by decide +kernel
theorem dX11_init_19 : decode cX11_init 19 = .ok (.dup, 1) := by decide +kernel
theorem dX11_init_20 : decode cX11_init 20 = .ok (.aload_n 0, 1) := by decide +kernel
theorem dX11_init_21 : decode cX11_init 21 = .ok (.getfield 10, 3) := by decide +kernel
theorem dX11_init_24 : decode cX11_init 24 = .ok (.invokespecial 18, 3) := by decide +kernel
theorem dX11_init_27 : decode cX11_init 27 = .ok (.putfield 21, 3) := by decide +kernel
theorem dX11_init_30 : decode cX11_init 30 = .ok (.aload_n 0, 1) := by decide +kernel
theorem dX11_init_31 : decode cX11_init 31 = .ok (.new 25, 3) := by decide +kernel
theorem dX11_init_34 : decode cX11_init 34 = .ok (.dup, 1) := by decide +kernel
theorem dX11_init_35 : decode cX11_init 35 = .ok (.aload_n 0, 1) := by decide +kernel
theorem dX11_init_36 : decode cX11_init 36 = .ok (.getfield 10, 3) := by decide +kernel
theorem dX11_init_39 : decode cX11_init 39 = .ok (.aload_n 0, 1) := by decide +kernel
theorem dX11_init_40 : decode cX11_init 40 = .ok (.getfield 21, 3) := by decide +kernel
theorem dX11_init_43 : decode cX11_init 43 = .ok (.invokespecial 27, 3) := by decide +kernel
theorem dX11_init_46 : decode cX11_init 46 = .ok (.putfield 30, 3) := by decide +kernel
theorem dX11_init_49 : decode cX11_init 49 = .ok (.aload_n 0, 1) := by decide +kernel
theorem dX11_init_50 : decode cX11_init 50 = .ok (.new 34, 3) := by decide +kernel
theorem dX11_init_53 : decode cX11_init 53 = .ok (.dup, 1) := by decide +kernel
theorem dX11_init_54 : decode cX11_init 54 = .ok (.aload_n 0, 1) := by decide +kernel
theorem dX11_init_55 : decode cX11_init 55 = .ok (.getfield 10, 3) := by decide +kernel
theorem dX11_init_58 : decode cX11_init 58 = .ok (.invokespecial 36, 3) := by decide +kernel
theorem dX11_init_61 : decode cX11_init 61 = .ok (.putfield 37, 3) := by decide +kernel
theorem dX11_init_64 : decode cX11_init 64 = .ok (.aload_n 0, 1) := by decide +kernel
theorem dX11_init_65 : decode cX11_init 65 = .ok (.new 41, 3) := by decide +kernel
theorem dX11_init_68 : decode cX11_init 68 = .ok (.dup, 1) := by decide +kernel
theorem dX11_init_69 : decode cX11_init 69 = .ok (.aload_n 0, 1) := by decide +kernel
theorem dX11_init_70 : decode cX11_init 70 = .ok (.getfield 10, 3) := by decide +kernel
theorem dX11_init_73 : decode cX11_init 73 = .ok (.aload_n 0, 1) := by decide +kernel
theorem dX11_init_74 : decode cX11_init 74 = .ok (.getfield 21, 3) := by decide +kernel
theorem dX11_init_77 : decode cX11_init 77 = .ok (.aload_n 0, 1) := by decide +kernel
theorem dX11_init_78 : decode cX11_init 78 = .ok (.getfield 30, 3) := by decide +kernel
theorem dX11_init_81 : decode cX11_init 81 = .ok (.aload_n 0, 1) := by decide +kernel
theorem dX11_init_82 : decode cX11_init 82 = .ok (.getfield 37, 3) := by decide +kernel
theorem dX11_init_85 : decode cX11_init 85 = .ok (.invokespecial 43, 3) := by decide +kernel
theorem dX11_init_88 : decode cX11_init 88 = .ok (.putfield 46, 3) := by decide +kernel
theorem dX11_init_91 : decode cX11_init 91 = .ok (.aload_n 0, 1) := by decide +kernel
theorem dX11_init_92 : decode cX11_init 92 = .ok (.new 50, 3) := by decide +kernel
theorem dX11_init_95 : decode cX11_init 95 = .ok (.dup, 1) := by decide +kernel
theorem dX11_init_96 : decode cX11_init 96 = .ok (.invokespecial 52, 3) := by decide +kernel
theorem dX11_init_99 : decode cX11_init 99 = .ok (.putfield 53, 3) := by decide +kernel
theorem dX11_init_102 : decode cX11_init 102 = .ok (.aload_n 0, 1) := by decide +kernel
theorem dX11_init_103 : decode cX11_init 103 = .ok (.new 57, 3) := by decide +kernel
theorem dX11_init_106 : decode cX11_init 106 = .ok (.dup, 1) := by decide +kernel
theorem dX11_init_107 : decode cX11_init 107 = .ok (.invokespecial 59, 3) := by decide +kernel
theorem dX11_init_110 : decode cX11_init 110 = .ok (.putfield 60, 3) := by decide +kernel
theorem dX11_init_113 : decode cX11_init 113 = .ok (.aload_n 0, 1) := by decide +kernel
theorem dX11_init_114 : decode cX11_init 114 = .ok (.aconst_null, 1) := by decide +kernel
theorem dX11_init_115 : decode cX11_init 115 = .ok (.putfield 64, 3) := by decide +kernel
theorem dX11_init_118 : decode cX11_init 118 = .ok (.aload_n 0, 1) := by decide +kernel
theorem dX11_init_119 : decode cX11_init 119 = .ok (.bipush 7, 2) := by decide +kernel
theorem dX11_init_121 : decode cX11_init 121 = .ok (.newarray .int, 2) := by decide +kernel
theorem dX11_init_123 : decode cX11_init 123 = .ok (.putfield 68, 3) := by decide +kernel
theorem dX11_init_126 : decode cX11_init 126 = .ok (.aload_n 0, 1) := by decide +kernel
theorem dX11_init_127 : decode cX11_init 127 = .ok (.iconst 0, 1) := by decide +kernel
theorem dX11_init_128 : decode cX11_init 128 = .ok (.putfield 72, 3) := by decide +kernel
theorem dX11_init_131 : decode cX11_init 131 = .ok (.aload_n 0, 1) := by decide +kernel
theorem dX11_init_132 : decode cX11_init 132 = .ok (.lconst 0, 1) := by decide +kernel
theorem dX11_init_133 : decode cX11_init 133 = .ok (.putfield 76, 3) := by decide +kernel
theorem dX11_init_136 : decode cX11_init 136 = .ok (.return_, 1) := by decide +kernel
theorem dX11_kind_0 : decode cX11_kind 0 = .ok (.aload_n 0, 1) := by decide +kernel
theorem dX11_kind_1 : decode cX11_kind 1 = .ok (.getfield 10, 3) := by decide +kernel
theorem dX11_kind_4 : decode cX11_kind 4 = .ok (.iload_n 1, 1) := by decide +kernel
theorem dX11_kind_5 : decode cX11_kind 5 = .ok (.invokevirtual 80, 3) := by decide +kernel
theorem dX11_kind_8 : decode cX11_kind 8 = .ok (.ifCond .ne 5, 3) := by decide +kernel
theorem dX11_kind_11 : decode cX11_kind 11 = .ok (.iconst (-1), 1) := by decide +kernel
theorem dX11_kind_12 : decode cX11_kind 12 = .ok (.ireturn, 1) := by decide +kernel
theorem dX11_kind_13 : decode cX11_kind 13 = .ok (.aload_n 0, 1) := by decide +kernel
theorem dX11_kind_14 : decode cX11_kind 14 = .ok (.getfield 10, 3) := by decide +kernel
theorem dX11_kind_17 : decode cX11_kind 17 = .ok (.getfield 84, 3) := by decide +kernel
theorem dX11_kind_20 : decode cX11_kind 20 = .ok (.bipush 24, 2) := by decide +kernel
theorem dX11_kind_22 : decode cX11_kind 22 = .ok (.if_icmp .lt 6, 3) := by decide +kernel
theorem dX11_kind_25 : decode cX11_kind 25 = .ok (.bipush (-2), 2) := by decide +kernel
theorem dX11_kind_27 : decode cX11_kind 27 = .ok (.ireturn, 1) := by decide +kernel
theorem dX11_kind_28 : decode cX11_kind 28 = .ok (.aload_n 0, 1) := by decide +kernel
theorem dX11_kind_29 : decode cX11_kind 29 = .ok (.getfield 10, 3) := by decide +kernel
theorem dX11_kind_32 : decode cX11_kind 32 = .ok (.iload_n 1, 1) := by decide +kernel
theorem dX11_kind_33 : decode cX11_kind 33 = .ok (.invokevirtual 87, 3) := by decide +kernel
theorem dX11_kind_36 : decode cX11_kind 36 = .ok (.ireturn, 1) := by decide +kernel
theorem dX11_standard_0 : decode cX11_standard 0 = .ok (.aload_n 0, 1) := by decide +kernel
theorem dX11_standard_1 : decode cX11_standard 1 = .ok (.getfield 10, 3) := by decide +kernel
theorem dX11_standard_4 : decode cX11_standard 4 = .ok (.iload_n 1, 1) := by decide +kernel
theorem dX11_standard_5 : decode cX11_standard 5 = .ok (.invokevirtual 80, 3) := by decide +kernel
theorem dX11_standard_8 : decode cX11_standard 8 = .ok (.ifCond .eq 27, 3) := by decide +kernel
theorem dX11_standard_11 : decode cX11_standard 11 = .ok (.iload_n 2, 1) := by decide +kernel
theorem dX11_standard_12 : decode cX11_standard 12 = .ok (.bipush 6, 2) := by decide +kernel
theorem dX11_standard_14 : decode cX11_standard 14 = .ok (.invokestatic 91, 3) := by decide +kernel
theorem dX11_standard_17 : decode cX11_standard 17 = .ok (.ifCond .eq 18, 3) := by decide +kernel
theorem dX11_standard_20 : decode cX11_standard 20 = .ok (.iload_n 3, 1) := by decide +kernel
theorem dX11_standard_21 : decode cX11_standard 21 = .ok (.ifCond .eq 16, 3) := by decide +kernel
theorem dX11_standard_24 : decode cX11_standard 24 = .ok (.iload_n 3, 1) := by decide +kernel
theorem dX11_standard_25 : decode cX11_standard 25 = .ok (.iconst 1, 1) := by decide +kernel
theorem dX11_standard_26 : decode cX11_standard 26 = .ok (.if_icmp .eq 11, 3) := by decide +kernel
theorem dX11_standard_29 : decode cX11_standard 29 = .ok (.iload_n 3, 1) := by decide +kernel
theorem dX11_standard_30 : decode cX11_standard 30 = .ok (.bipush (-9), 2) := by decide +kernel
theorem dX11_standard_32 : decode cX11_standard 32 = .ok (.if_icmp .eq 5, 3) := by decide +kernel
theorem dX11_standard_35 : decode cX11_standard 35 = .ok (.iconst (-1), 1) := by decide +kernel
theorem dX11_standard_36 : decode cX11_standard 36 = .ok (.ireturn, 1) := by decide +kernel
theorem dX11_standard_37 : decode cX11_standard 37 = .ok (.aload_n 0, 1) := by decide +kernel
theorem dX11_standard_38 : decode cX11_standard 38 = .ok (.getfield 46, 3) := by decide +kernel
theorem dX11_standard_41 : decode cX11_standard 41 = .ok (.invokevirtual 95, 3) := by decide +kernel
theorem dX11_standard_44 : decode cX11_standard 44 = .ok (.aload_n 0, 1) := by decide +kernel
theorem dX11_standard_45 : decode cX11_standard 45 = .ok (.getfield 10, 3) := by decide +kernel
theorem dX11_standard_48 : decode cX11_standard 48 = .ok (.iload_n 1, 1) := by decide +kernel
theorem dX11_standard_49 : decode cX11_standard 49 = .ok (.iload_n 2, 1) := by decide +kernel
theorem dX11_standard_50 : decode cX11_standard 50 = .ok (.iload_n 3, 1) := by decide +kernel
theorem dX11_standard_51 : decode cX11_standard 51 = .ok (.invokevirtual 98, 3) := by decide +kernel
theorem dX11_standard_54 : decode cX11_standard 54 = .ok (.ireturn, 1) := by decide +kernel
theorem dX11_make_0 : decode cX11_make 0 = .ok (.aload_n 0, 1) := by decide +kernel
theorem dX11_make_1 : decode cX11_make 1 = .ok (.getfield 10, 3) := by decide +kernel
theorem dX11_make_4 : decode cX11_make 4 = .ok (.iload_n 1, 1) := by decide +kernel
theorem dX11_make_5 : decode cX11_make 5 = .ok (.invokevirtual 80, 3) := by decide +kernel
theorem dX11_make_8 : decode cX11_make 8 = .ok (.ifCond .eq 13, 3) := by decide +kernel
theorem dX11_make_11 : decode cX11_make 11 = .ok (.iload_n 2, 1) := by decide +kernel
theorem dX11_make_12 : decode cX11_make 12 = .ok (.ifCond .lt 9, 3) := by decide +kernel
theorem dX11_make_15 : decode cX11_make 15 = .ok (.iload_n 2, 1) := by decide +kernel
theorem dX11_make_16 : decode cX11_make 16 = .ok (.bipush 99, 2) := by decide +kernel
theorem dX11_make_18 : decode cX11_make 18 = .ok (.if_icmp .le 5, 3) := by decide +kernel
theorem dX11_make_21 : decode cX11_make 21 = .ok (.iconst (-1), 1) := by decide +kernel
theorem dX11_make_22 : decode cX11_make 22 = .ok (.ireturn, 1) := by decide +kernel
theorem dX11_make_23 : decode cX11_make 23 = .ok (.aload_n 0, 1) := by decide +kernel
theorem dX11_make_24 : decode cX11_make 24 = .ok (.getfield 10, 3) := by decide +kernel
theorem dX11_make_27 : decode cX11_make 27 = .ok (.getfield 102, 3) := by decide +kernel
theorem dX11_make_30 : decode cX11_make 30 = .ok (.bipush 30, 2) := by decide +kernel
theorem dX11_make_32 : decode cX11_make 32 = .ok (.if_icmp .lt 6, 3) := by decide +kernel
theorem dX11_make_35 : decode cX11_make 35 = .ok (.bipush (-2), 2) := by decide +kernel
theorem dX11_make_37 : decode cX11_make 37 = .ok (.ireturn, 1) := by decide +kernel
theorem dX11_make_38 : decode cX11_make 38 = .ok (.aload_n 0, 1) := by decide +kernel
theorem dX11_make_39 : decode cX11_make 39 = .ok (.getfield 46, 3) := by decide +kernel
theorem dX11_make_42 : decode cX11_make 42 = .ok (.invokevirtual 95, 3) := by decide +kernel
theorem dX11_make_45 : decode cX11_make 45 = .ok (.aload_n 0, 1) := by decide +kernel
theorem dX11_make_46 : decode cX11_make 46 = .ok (.getfield 10, 3) := by decide +kernel
theorem dX11_make_49 : decode cX11_make 49 = .ok (.iload_n 1, 1) := by decide +kernel
theorem dX11_make_50 : decode cX11_make 50 = .ok (.iload_n 2, 1) := by decide +kernel
theorem dX11_make_51 : decode cX11_make 51 = .ok (.invokevirtual 105, 3) := by decide +kernel
theorem dX11_make_54 : decode cX11_make 54 = .ok (.ireturn, 1) := by decide +kernel
theorem dX11_is_0 : decode cX11_is 0 = .ok (.aload_n 0, 1) := by decide +kernel
theorem dX11_is_1 : decode cX11_is 1 = .ok (.getfield 10, 3) := by decide +kernel
theorem dX11_is_4 : decode cX11_is 4 = .ok (.iload_n 1, 1) := by decide +kernel
theorem dX11_is_5 : decode cX11_is 5 = .ok (.invokevirtual 109, 3) := by decide +kernel
theorem dX11_is_8 : decode cX11_is 8 = .ok (.ifCond .eq 14, 3) := by decide +kernel
theorem dX11_is_11 : decode cX11_is 11 = .ok (.aload_n 0, 1) := by decide +kernel
theorem dX11_is_12 : decode cX11_is 12 = .ok (.getfield 10, 3) := by decide +kernel
theorem dX11_is_15 : decode cX11_is 15 = .ok (.iload_n 2, 1) := by decide +kernel
theorem dX11_is_16 : decode cX11_is 16 = .ok (.invokevirtual 80, 3) := by decide +kernel
theorem dX11_is_19 : decode cX11_is 19 = .ok (.ifCond .ne 5, 3) := by decide +kernel
theorem dX11_is_22 : decode cX11_is 22 = .ok (.iconst (-1), 1) := by decide +kernel
theorem dX11_is_23 : decode cX11_is 23 = .ok (.ireturn, 1) := by decide +kernel
theorem dX11_is_24 : decode cX11_is 24 = .ok (.aload_n 0, 1) := by decide +kernel
theorem dX11_is_25 : decode cX11_is 25 = .ok (.getfield 10, 3) := by decide +kernel
theorem dX11_is_28 : decode cX11_is 28 = .ok (.aload_n 0, 1) := by decide +kernel
theorem dX11_is_29 : decode cX11_is 29 = .ok (.getfield 10, 3) := by decide +kernel
theorem dX11_is_32 : decode cX11_is 32 = .ok (.getfield 112, 3) := by decide +kernel
theorem dX11_is_35 : decode cX11_is 35 = .ok (.iload_n 1, 1) := by decide +kernel
theorem dX11_is_36 : decode cX11_is 36 = .ok (.iaload, 1) := by decide +kernel
theorem dX11_is_37 : decode cX11_is 37 = .ok (.iload_n 2, 1) := by decide +kernel
theorem dX11_is_38 : decode cX11_is 38 = .ok (.invokevirtual 115, 3) := by decide +kernel
theorem dX11_is_41 : decode cX11_is 41 = .ok (.invokestatic 118, 3) := by decide +kernel
theorem dX11_is_44 : decode cX11_is 44 = .ok (.ireturn, 1) := by decide +kernel
theorem dX11_bulk_0 : decode cX11_bulk 0 = .ok (.aload_n 0, 1) := by decide +kernel
theorem dX11_bulk_1 : decode cX11_bulk 1 = .ok (.getfield 10, 3) := by decide +kernel
theorem dX11_bulk_4 : decode cX11_bulk 4 = .ok (.iload_n 1, 1) := by decide +kernel
theorem dX11_bulk_5 : decode cX11_bulk 5 = .ok (.invokevirtual 109, 3) := by decide +kernel
theorem dX11_bulk_8 : decode cX11_bulk 8 = .ok (.ifCond .ne 5, 3) := by decide +kernel
theorem dX11_bulk_11 : decode cX11_bulk 11 = .ok (.iconst (-1), 1) := by decide +kernel
theorem dX11_bulk_12 : decode cX11_bulk 12 = .ok (.ireturn, 1) := by decide +kernel
theorem dX11_bulk_13 : decode cX11_bulk 13 = .ok (.aload_n 0, 1) := by decide +kernel
theorem dX11_bulk_14 : decode cX11_bulk 14 = .ok (.getfield 37, 3) := by decide +kernel
theorem dX11_bulk_17 : decode cX11_bulk 17 = .ok (.invokevirtual 122, 3) := by decide +kernel
theorem dX11_bulk_20 : decode cX11_bulk 20 = .ok (.aload_n 0, 1) := by decide +kernel
theorem dX11_bulk_21 : decode cX11_bulk 21 = .ok (.getfield 10, 3) := by decide +kernel
theorem dX11_bulk_24 : decode cX11_bulk 24 = .ok (.iload_n 1, 1) := by decide +kernel
theorem dX11_bulk_25 : decode cX11_bulk 25 = .ok (.invokevirtual 125, 3) := by decide +kernel
theorem dX11_bulk_28 : decode cX11_bulk 28 = .ok (.ifCond .ne 9, 3) := by decide +kernel
theorem dX11_bulk_31 : decode cX11_bulk 31 = .ok (.aload_n 0, 1) := by decide +kernel
theorem dX11_bulk_32 : decode cX11_bulk 32 = .ok (.iconst 3, 1) := by decide +kernel
theorem dX11_bulk_33 : decode cX11_bulk 33 = .ok (.invokevirtual 128, 3) := by decide +kernel
theorem dX11_bulk_36 : decode cX11_bulk 36 = .ok (.ireturn, 1) := by decide +kernel
theorem dX11_bulk_37 : decode cX11_bulk 37 = .ok (.aload_n 0, 1) := by decide +kernel
theorem dX11_bulk_38 : decode cX11_bulk 38 = .ok (.getfield 37, 3) := by decide +kernel
theorem dX11_bulk_41 : decode cX11_bulk 41 = .ok (.aload_n 0, 1) := by decide +kernel
theorem dX11_bulk_42 : decode cX11_bulk 42 = .ok (.invokevirtual 131, 3) := by decide +kernel
theorem dX11_bulk_45 : decode cX11_bulk 45 = .ok (.iload_n 1, 1) := by decide +kernel
theorem dX11_bulk_46 : decode cX11_bulk 46 = .ok (.invokevirtual 135, 3) := by decide +kernel
theorem dX11_bulk_49 : decode cX11_bulk 49 = .ok (.istore_n 2, 1) := by decide +kernel
theorem dX11_bulk_50 : decode cX11_bulk 50 = .ok (.iload_n 2, 1) := by decide +kernel
theorem dX11_bulk_51 : decode cX11_bulk 51 = .ok (.ifCond .ge 9, 3) := by decide +kernel
theorem dX11_bulk_54 : decode cX11_bulk 54 = .ok (.aload_n 0, 1) := by decide +kernel
theorem dX11_bulk_55 : decode cX11_bulk 55 = .ok (.iconst 4, 1) := by decide +kernel
theorem dX11_bulk_56 : decode cX11_bulk 56 = .ok (.invokevirtual 128, 3) := by decide +kernel
theorem dX11_bulk_59 : decode cX11_bulk 59 = .ok (.ireturn, 1) := by decide +kernel
theorem dX11_bulk_60 : decode cX11_bulk 60 = .ok (.aload_n 0, 1) := by decide +kernel
theorem dX11_bulk_61 : decode cX11_bulk 61 = .ok (.iload_n 2, 1) := by decide +kernel
theorem dX11_bulk_62 : decode cX11_bulk 62 = .ok (.i2l, 1) := by decide +kernel
theorem dX11_bulk_63 : decode cX11_bulk 63 = .ok (.putfield 76, 3) := by decide +kernel
theorem dX11_bulk_66 : decode cX11_bulk 66 = .ok (.iconst 1, 1) := by decide +kernel
theorem dX11_bulk_67 : decode cX11_bulk 67 = .ok (.ireturn, 1) := by decide +kernel
theorem dX11_asked_0 : decode cX11_asked 0 = .ok (.aload_n 0, 1) := by decide +kernel
theorem dX11_asked_1 : decode cX11_asked 1 = .ok (.getfield 76, 3) := by decide +kernel
theorem dX11_asked_4 : decode cX11_asked 4 = .ok (.lreturn, 1) := by decide +kernel
theorem dX11_trace_0 : decode cX11_trace 0 = .ok (.iload_n 1, 1) := by decide +kernel
theorem dX11_trace_1 : decode cX11_trace 1 = .ok (.aload_n 0, 1) := by decide +kernel
theorem dX11_trace_2 : decode cX11_trace 2 = .ok (.getfield 37, 3) := by decide +kernel
theorem dX11_trace_5 : decode cX11_trace 5 = .ok (.getfield 139, 3) := by decide +kernel
theorem dX11_trace_8 : decode cX11_trace 8 = .ok (.invokestatic 91, 3) := by decide +kernel
theorem dX11_trace_11 : decode cX11_trace 11 = .ok (.ifCond .eq 15, 3) := by decide +kernel
theorem dX11_trace_14 : decode cX11_trace 14 = .ok (.aload_n 0, 1) := by decide +kernel
theorem dX11_trace_15 : decode cX11_trace 15 = .ok (.getfield 37, 3) := by decide +kernel
theorem dX11_trace_18 : decode cX11_trace 18 = .ok (.getfield 142, 3) := by decide +kernel
theorem dX11_trace_21 : decode cX11_trace 21 = .ok (.iload_n 1, 1) := by decide +kernel
theorem dX11_trace_22 : decode cX11_trace 22 = .ok (.iaload, 1) := by decide +kernel
theorem dX11_trace_23 : decode cX11_trace 23 = .ok (.goto 5, 3) := by decide +kernel
theorem dX11_trace_26 : decode cX11_trace 26 = .ok (.bipush (-9), 2) := by decide +kernel
theorem dX11_trace_28 : decode cX11_trace 28 = .ok (.ireturn, 1) := by decide +kernel
theorem dX11_share_0 : decode cX11_share 0 = .ok (.aload_n 0, 1) := by decide +kernel
theorem dX11_share_1 : decode cX11_share 1 = .ok (.getfield 10, 3) := by decide +kernel
theorem dX11_share_4 : decode cX11_share 4 = .ok (.iload_n 1, 1) := by decide +kernel
theorem dX11_share_5 : decode cX11_share 5 = .ok (.invokevirtual 109, 3) := by decide +kernel
theorem dX11_share_8 : decode cX11_share 8 = .ok (.ifCond .eq 14, 3) := by decide +kernel
theorem dX11_share_11 : decode cX11_share 11 = .ok (.aload_n 0, 1) := by decide +kernel
theorem dX11_share_12 : decode cX11_share 12 = .ok (.getfield 10, 3) := by decide +kernel
theorem dX11_share_15 : decode cX11_share 15 = .ok (.iload_n 2, 1) := by decide +kernel
theorem dX11_share_16 : decode cX11_share 16 = .ok (.invokevirtual 109, 3) := by decide +kernel
theorem dX11_share_19 : decode cX11_share 19 = .ok (.ifCond .ne 5, 3) := by decide +kernel
theorem dX11_share_22 : decode cX11_share 22 = .ok (.iconst (-1), 1) := by decide +kernel
theorem dX11_share_23 : decode cX11_share 23 = .ok (.ireturn, 1) := by decide +kernel
theorem dX11_share_24 : decode cX11_share 24 = .ok (.aload_n 0, 1) := by decide +kernel
theorem dX11_share_25 : decode cX11_share 25 = .ok (.getfield 10, 3) := by decide +kernel
theorem dX11_share_28 : decode cX11_share 28 = .ok (.iload_n 1, 1) := by decide +kernel
theorem dX11_share_29 : decode cX11_share 29 = .ok (.invokevirtual 125, 3) := by decide +kernel
theorem dX11_share_32 : decode cX11_share 32 = .ok (.ifCond .ne 9, 3) := by decide +kernel
theorem dX11_share_35 : decode cX11_share 35 = .ok (.aload_n 0, 1) := by decide +kernel
theorem dX11_share_36 : decode cX11_share 36 = .ok (.iconst 3, 1) := by decide +kernel
theorem dX11_share_37 : decode cX11_share 37 = .ok (.invokevirtual 128, 3) := by decide +kernel
theorem dX11_share_40 : decode cX11_share 40 = .ok (.ireturn, 1) := by decide +kernel
theorem dX11_share_41 : decode cX11_share 41 = .ok (.aload_n 0, 1) := by decide +kernel
theorem dX11_share_42 : decode cX11_share 42 = .ok (.getfield 37, 3) := by decide +kernel
theorem dX11_share_45 : decode cX11_share 45 = .ok (.aload_n 0, 1) := by decide +kernel
theorem dX11_share_46 : decode cX11_share 46 = .ok (.invokevirtual 131, 3) := by decide +kernel
theorem dX11_share_49 : decode cX11_share 49 = .ok (.iload_n 1, 1) := by decide +kernel
theorem dX11_share_50 : decode cX11_share 50 = .ok (.invokevirtual 145, 3) := by decide +kernel
theorem dX11_share_53 : decode cX11_share 53 = .ok (.istore_n 3, 1) := by decide +kernel
theorem dX11_share_54 : decode cX11_share 54 = .ok (.aload_n 0, 1) := by decide +kernel
theorem dX11_share_55 : decode cX11_share 55 = .ok (.getfield 37, 3) := by decide +kernel
theorem dX11_share_58 : decode cX11_share 58 = .ok (.aload_n 0, 1) := by decide +kernel
theorem dX11_share_59 : decode cX11_share 59 = .ok (.invokevirtual 131, 3) := by decide +kernel
theorem dX11_share_62 : decode cX11_share 62 = .ok (.iload_n 2, 1) := by decide +kernel
theorem dX11_share_63 : decode cX11_share 63 = .ok (.invokevirtual 148, 3) := by decide +kernel
theorem dX11_share_66 : decode cX11_share 66 = .ok (.istore 4, 2) := by decide +kernel
theorem dX11_share_68 : decode cX11_share 68 = .ok (.iload_n 3, 1) := by decide +kernel
theorem dX11_share_69 : decode cX11_share 69 = .ok (.ifCond .lt 8, 3) := by decide +kernel
theorem dX11_share_72 : decode cX11_share 72 = .ok (.iload 4, 2) := by decide +kernel
theorem dX11_share_74 : decode cX11_share 74 = .ok (.ifCond .gt 9, 3) := by decide +kernel
theorem dX11_share_77 : decode cX11_share 77 = .ok (.aload_n 0, 1) := by decide +kernel
theorem dX11_share_78 : decode cX11_share 78 = .ok (.iconst 4, 1) := by decide +kernel
theorem dX11_share_79 : decode cX11_share 79 = .ok (.invokevirtual 128, 3) := by decide +kernel
theorem dX11_share_82 : decode cX11_share 82 = .ok (.ireturn, 1) := by decide +kernel
theorem dX11_share_83 : decode cX11_share 83 = .ok (.aload_n 0, 1) := by decide +kernel
theorem dX11_share_84 : decode cX11_share 84 = .ok (.ldc2_w 151, 3) := by decide +kernel
theorem dX11_share_87 : decode cX11_share 87 = .ok (.iload_n 3, 1) := by decide +kernel
theorem dX11_share_88 : decode cX11_share 88 = .ok (.i2l, 1) := by decide +kernel
theorem dX11_share_89 : decode cX11_share 89 = .ok (.lmul, 1) := by decide +kernel
theorem dX11_share_90 : decode cX11_share 90 = .ok (.iload 4, 2) := by decide +kernel
