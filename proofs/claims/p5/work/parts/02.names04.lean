theorem dX5_drawThroughDoors_56 : decode cX5_drawThroughDoors 56 = .ok (.iload_n 2, 1) := by decide +kernel
theorem dX5_drawThroughDoors_57 : decode cX5_drawThroughDoors 57 = .ok (.iaload, 1) := by decide +kernel
theorem dX5_drawThroughDoors_58 : decode cX5_drawThroughDoors 58 = .ok (.goto 9, 3) := by decide +kernel
theorem dX5_drawThroughDoors_61 : decode cX5_drawThroughDoors 61 = .ok (.aload_n 0, 1) := by decide +kernel
theorem dX5_drawThroughDoors_62 : decode cX5_drawThroughDoors 62 = .ok (.getfield 24, 3) := by decide +kernel
theorem dX5_drawThroughDoors_65 : decode cX5_drawThroughDoors 65 = .ok (.iload_n 2, 1) := by decide +kernel
theorem dX5_drawThroughDoors_66 : decode cX5_drawThroughDoors 66 = .ok (.iaload, 1) := by decide +kernel
theorem dX5_drawThroughDoors_67 : decode cX5_drawThroughDoors 67 = .ok (.iastore, 1) := by decide +kernel
theorem dX5_drawThroughDoors_68 : decode cX5_drawThroughDoors 68 = .ok (.iinc 1 1, 3) := by decide +kernel
theorem dX5_drawThroughDoors_71 : decode cX5_drawThroughDoors 71 = .ok (.goto (-69), 3) := by decide +kernel
theorem dX5_drawThroughDoors_74 : decode cX5_drawThroughDoors 74 = .ok (.return_, 1) := by decide +kernel
theorem dX5_tellOf_0 : decode cX5_tellOf 0 = .ok (.aload_n 0, 1) := by decide +kernel
theorem dX5_tellOf_1 : decode cX5_tellOf 1 = .ok (.getfield 18, 3) := by decide +kernel
theorem dX5_tellOf_4 : decode cX5_tellOf 4 = .ok (.iload_n 1, 1) := by decide +kernel
theorem dX5_tellOf_5 : decode cX5_tellOf 5 = .ok (.iaload, 1) := by decide +kernel
theorem dX5_tellOf_6 : decode cX5_tellOf 6 = .ok (.bipush (-9), 2) := by decide +kernel
theorem dX5_tellOf_8 : decode cX5_tellOf 8 = .ok (.if_icmp .ne 6, 3) := by decide +kernel
theorem dX5_tellOf_11 : decode cX5_tellOf 11 = .ok (.bipush (-9), 2) := by decide +kernel
theorem dX5_tellOf_13 : decode cX5_tellOf 13 = .ok (.ireturn, 1) := by decide +kernel
theorem dX5_tellOf_14 : decode cX5_tellOf 14 = .ok (.iload_n 2, 1) := by decide +kernel
theorem dX5_tellOf_15 : decode cX5_tellOf 15 = .ok (.tableswitch 52 0 2 #[25, 34, 43], 25) := by decide +kernel
theorem dX5_tellOf_40 : decode cX5_tellOf 40 = .ok (.aload_n 0, 1) := by decide +kernel
theorem dX5_tellOf_41 : decode cX5_tellOf 41 = .ok (.getfield 9, 3) := by decide +kernel
theorem dX5_tellOf_44 : decode cX5_tellOf 44 = .ok (.iload_n 1, 1) := by decide +kernel
theorem dX5_tellOf_45 : decode cX5_tellOf 45 = .ok (.iaload, 1) := by decide +kernel
theorem dX5_tellOf_46 : decode cX5_tellOf 46 = .ok (.goto 27, 3) := by decide +kernel
theorem dX5_tellOf_49 : decode cX5_tellOf 49 = .ok (.aload_n 0, 1) := by decide +kernel
theorem dX5_tellOf_50 : decode cX5_tellOf 50 = .ok (.getfield 15, 3) := by decide +kernel
theorem dX5_tellOf_53 : decode cX5_tellOf 53 = .ok (.iload_n 1, 1) := by decide +kernel
theorem dX5_tellOf_54 : decode cX5_tellOf 54 = .ok (.iaload, 1) := by decide +kernel
theorem dX5_tellOf_55 : decode cX5_tellOf 55 = .ok (.goto 18, 3) := by decide +kernel
theorem dX5_tellOf_58 : decode cX5_tellOf 58 = .ok (.aload_n 0, 1) := by decide +kernel
theorem dX5_tellOf_59 : decode cX5_tellOf 59 = .ok (.getfield 18, 3) := by decide +kernel
theorem dX5_tellOf_62 : decode cX5_tellOf 62 = .ok (.iload_n 1, 1) := by decide +kernel
theorem dX5_tellOf_63 : decode cX5_tellOf 63 = .ok (.iaload, 1) := by decide +kernel
theorem dX5_tellOf_64 : decode cX5_tellOf 64 = .ok (.goto 9, 3) := by decide +kernel
theorem dX5_tellOf_67 : decode cX5_tellOf 67 = .ok (.aload_n 0, 1) := by decide +kernel
theorem dX5_tellOf_68 : decode cX5_tellOf 68 = .ok (.getfield 21, 3) := by decide +kernel
theorem dX5_tellOf_71 : decode cX5_tellOf 71 = .ok (.iload_n 1, 1) := by decide +kernel
theorem dX5_tellOf_72 : decode cX5_tellOf 72 = .ok (.iaload, 1) := by decide +kernel
theorem dX5_tellOf_73 : decode cX5_tellOf 73 = .ok (.ireturn, 1) := by decide +kernel
theorem dX5_isSide_0 : decode cX5_isSide 0 = .ok (.iload_n 1, 1) := by decide +kernel
theorem dX5_isSide_1 : decode cX5_isSide 1 = .ok (.bipush (-9), 2) := by decide +kernel
theorem dX5_isSide_3 : decode cX5_isSide 3 = .ok (.if_icmp .eq 27, 3) := by decide +kernel
theorem dX5_isSide_6 : decode cX5_isSide 6 = .ok (.aload_n 0, 1) := by decide +kernel
theorem dX5_isSide_7 : decode cX5_isSide 7 = .ok (.getfield 24, 3) := by decide +kernel
theorem dX5_isSide_10 : decode cX5_isSide 10 = .ok (.iload_n 2, 1) := by decide +kernel
theorem dX5_isSide_11 : decode cX5_isSide 11 = .ok (.iaload, 1) := by decide +kernel
theorem dX5_isSide_12 : decode cX5_isSide 12 = .ok (.iload_n 1, 1) := by decide +kernel
theorem dX5_isSide_13 : decode cX5_isSide 13 = .ok (.if_icmp .eq 13, 3) := by decide +kernel
theorem dX5_isSide_16 : decode cX5_isSide 16 = .ok (.aload_n 0, 1) := by decide +kernel
theorem dX5_isSide_17 : decode cX5_isSide 17 = .ok (.getfield 27, 3) := by decide +kernel
theorem dX5_isSide_20 : decode cX5_isSide 20 = .ok (.iload_n 2, 1) := by decide +kernel
theorem dX5_isSide_21 : decode cX5_isSide 21 = .ok (.iaload, 1) := by decide +kernel
theorem dX5_isSide_22 : decode cX5_isSide 22 = .ok (.iload_n 1, 1) := by decide +kernel
theorem dX5_isSide_23 : decode cX5_isSide 23 = .ok (.if_icmp .ne 7, 3) := by decide +kernel
theorem dX5_isSide_26 : decode cX5_isSide 26 = .ok (.iconst 1, 1) := by decide +kernel
theorem dX5_isSide_27 : decode cX5_isSide 27 = .ok (.goto 4, 3) := by decide +kernel
theorem dX5_isSide_30 : decode cX5_isSide 30 = .ok (.iconst 0, 1) := by decide +kernel
theorem dX5_isSide_31 : decode cX5_isSide 31 = .ok (.ireturn, 1) := by decide +kernel
theorem dX5_walkFrom_0 : decode cX5_walkFrom 0 = .ok (.aload_n 0, 1) := by decide +kernel
theorem dX5_walkFrom_1 : decode cX5_walkFrom 1 = .ok (.getfield 30, 3) := by decide +kernel
theorem dX5_walkFrom_4 : decode cX5_walkFrom 4 = .ok (.bipush (-9), 2) := by decide +kernel
theorem dX5_walkFrom_6 : decode cX5_walkFrom 6 = .ok (.invokestatic 50, 3) := by decide +kernel
theorem dX5_walkFrom_9 : decode cX5_walkFrom 9 = .ok (.aload_n 0, 1) := by decide +kernel
theorem dX5_walkFrom_10 : decode cX5_walkFrom 10 = .ok (.getfield 33, 3) := by decide +kernel
theorem dX5_walkFrom_13 : decode cX5_walkFrom 13 = .ok (.bipush (-9), 2) := by decide +kernel
theorem dX5_walkFrom_15 : decode cX5_walkFrom 15 = .ok (.invokestatic 50, 3) := by decide +kernel
theorem dX5_walkFrom_18 : decode cX5_walkFrom 18 = .ok (.aload_n 0, 1) := by decide +kernel
theorem dX5_walkFrom_19 : decode cX5_walkFrom 19 = .ok (.getfield 30, 3) := by decide +kernel
theorem dX5_walkFrom_22 : decode cX5_walkFrom 22 = .ok (.iload_n 1, 1) := by decide +kernel
theorem dX5_walkFrom_23 : decode cX5_walkFrom 23 = .ok (.iconst 0, 1) := by decide +kernel
theorem dX5_walkFrom_24 : decode cX5_walkFrom 24 = .ok (.iastore, 1) := by decide +kernel
theorem dX5_walkFrom_25 : decode cX5_walkFrom 25 = .ok (.aload_n 0, 1) := by decide +kernel
theorem dX5_walkFrom_26 : decode cX5_walkFrom 26 = .ok (.getfield 36, 3) := by decide +kernel
theorem dX5_walkFrom_29 : decode cX5_walkFrom 29 = .ok (.iconst 0, 1) := by decide +kernel
theorem dX5_walkFrom_30 : decode cX5_walkFrom 30 = .ok (.iload_n 1, 1) := by decide +kernel
theorem dX5_walkFrom_31 : decode cX5_walkFrom 31 = .ok (.iastore, 1) := by decide +kernel
theorem dX5_walkFrom_32 : decode cX5_walkFrom 32 = .ok (.iconst 1, 1) := by decide +kernel
theorem dX5_walkFrom_33 : decode cX5_walkFrom 33 = .ok (.istore_n 3, 1) := by decide +kernel
theorem dX5_walkFrom_34 : decode cX5_walkFrom 34 = .ok (.iconst 0, 1) := by decide +kernel
theorem dX5_walkFrom_35 : decode cX5_walkFrom 35 = .ok (.istore 4, 2) := by decide +kernel
theorem dX5_walkFrom_37 : decode cX5_walkFrom 37 = .ok (.iload 4, 2) := by decide +kernel
theorem dX5_walkFrom_39 : decode cX5_walkFrom 39 = .ok (.iload_n 3, 1) := by decide +kernel
theorem dX5_walkFrom_40 : decode cX5_walkFrom 40 = .ok (.if_icmp .ge 143, 3) := by decide +kernel
theorem dX5_walkFrom_43 : decode cX5_walkFrom 43 = .ok (.iload 4, 2) := by decide +kernel
theorem dX5_walkFrom_45 : decode cX5_walkFrom 45 = .ok (.bipush 30, 2) := by decide +kernel
theorem dX5_walkFrom_47 : decode cX5_walkFrom 47 = .ok (.if_icmp .ge 136, 3) := by decide +kernel
theorem dX5_walkFrom_50 : decode cX5_walkFrom 50 = .ok (.aload_n 0, 1) := by decide +kernel
theorem dX5_walkFrom_51 : decode cX5_walkFrom 51 = .ok (.getfield 36, 3) := by decide +kernel
theorem dX5_walkFrom_54 : decode cX5_walkFrom 54 = .ok (.iload 4, 2) := by decide +kernel
theorem dX5_walkFrom_56 : decode cX5_walkFrom 56 = .ok (.iaload, 1) := by decide +kernel
theorem dX5_walkFrom_57 : decode cX5_walkFrom 57 = .ok (.istore 5, 2) := by decide +kernel
theorem dX5_walkFrom_59 : decode cX5_walkFrom 59 = .ok (.iconst 0, 1) := by decide +kernel
theorem dX5_walkFrom_60 : decode cX5_walkFrom 60 = .ok (.istore 6, 2) := by decide +kernel
theorem dX5_walkFrom_62 : decode cX5_walkFrom 62 = .ok (.iload 6, 2) := by decide +kernel
theorem dX5_walkFrom_64 : decode cX5_walkFrom 64 = .ok (.bipush 10, 2) := by decide +kernel
theorem dX5_walkFrom_66 : decode cX5_walkFrom 66 = .ok (.if_icmp .ge 111, 3) := by decide +kernel
theorem dX5_walkFrom_69 : decode cX5_walkFrom 69 = .ok (.aload_n 0, 1) := by decide +kernel
theorem dX5_walkFrom_70 : decode cX5_walkFrom 70 = .ok (.getfield 9, 3) := by decide +kernel
theorem dX5_walkFrom_73 : decode cX5_walkFrom 73 = .ok (.iload 5, 2) := by decide +kernel
theorem dX5_walkFrom_75 : decode cX5_walkFrom 75 = .ok (.bipush 10, 2) := by decide +kernel
theorem dX5_walkFrom_77 : decode cX5_walkFrom 77 = .ok (.imul, 1) := by decide +kernel
theorem dX5_walkFrom_78 : decode cX5_walkFrom 78 = .ok (.iload 6, 2) := by decide +kernel
theorem dX5_walkFrom_80 : decode cX5_walkFrom 80 = .ok (.iadd, 1) := by decide +kernel
theorem dX5_walkFrom_81 : decode cX5_walkFrom 81 = .ok (.iaload, 1) := by decide +kernel
theorem dX5_walkFrom_82 : decode cX5_walkFrom 82 = .ok (.istore 7, 2) := by decide +kernel
theorem dX5_walkFrom_84 : decode cX5_walkFrom 84 = .ok (.iload 7, 2) := by decide +kernel
theorem dX5_walkFrom_86 : decode cX5_walkFrom 86 = .ok (.bipush (-9), 2) := by decide +kernel
theorem dX5_walkFrom_88 : decode cX5_walkFrom 88 = .ok (.if_icmp .eq 83, 3) := by decide +kernel
theorem dX5_walkFrom_91 : decode cX5_walkFrom 91 = .ok (.aload_n 0, 1) := by decide +kernel
theorem dX5_walkFrom_92 : decode cX5_walkFrom 92 = .ok (.getfield 30, 3) := by decide +kernel
theorem dX5_walkFrom_95 : decode cX5_walkFrom 95 = .ok (.iload 7, 2) := by decide +kernel
theorem dX5_walkFrom_97 : decode cX5_walkFrom 97 = .ok (.iaload, 1) := by decide +kernel
theorem dX5_walkFrom_98 : decode cX5_walkFrom 98 = .ok (.bipush (-9), 2) := by decide +kernel
theorem dX5_walkFrom_100 : decode cX5_walkFrom 100 = .ok (.if_icmp .ne 71, 3) := by decide +kernel
theorem dX5_walkFrom_103 : decode cX5_walkFrom 103 = .ok (.aload_n 0, 1) := by decide +kernel
theorem dX5_walkFrom_104 : decode cX5_walkFrom 104 = .ok (.iload 5, 2) := by decide +kernel
theorem dX5_walkFrom_106 : decode cX5_walkFrom 106 = .ok (.bipush 10, 2) := by decide +kernel
theorem dX5_walkFrom_108 : decode cX5_walkFrom 108 = .ok (.imul, 1) := by decide +kernel
theorem dX5_walkFrom_109 : decode cX5_walkFrom 109 = .ok (.iload 6, 2) := by decide +kernel
theorem dX5_walkFrom_111 : decode cX5_walkFrom 111 = .ok (.iadd, 1) := by decide +kernel
theorem dX5_walkFrom_112 : decode cX5_walkFrom 112 = .ok (.iload_n 2, 1) := by decide +kernel
theorem dX5_walkFrom_113 : decode cX5_walkFrom 113 = .ok (.invokevirtual 101, 3) := by decide +kernel
theorem dX5_walkFrom_116 : decode cX5_walkFrom 116 = .ok (.ifCond .eq 55, 3) := by decide +kernel
theorem dX5_walkFrom_119 : decode cX5_walkFrom 119 = .ok (.aload_n 0, 1) := by decide +kernel
theorem dX5_walkFrom_120 : decode cX5_walkFrom 120 = .ok (.getfield 30, 3) := by decide +kernel
theorem dX5_walkFrom_123 : decode cX5_walkFrom 123 = .ok (.iload 7, 2) := by decide +kernel
theorem dX5_walkFrom_125 : decode cX5_walkFrom 125 = .ok (.aload_n 0, 1) := by decide +kernel
theorem dX5_walkFrom_126 : decode cX5_walkFrom 126 = .ok (.getfield 30, 3) := by decide +kernel
theorem dX5_walkFrom_129 : decode cX5_walkFrom 129 = .ok (.iload 5, 2) := by decide +kernel
theorem dX5_walkFrom_131 : decode cX5_walkFrom 131 = .ok (.iaload, 1) := by decide +kernel
theorem dX5_walkFrom_132 : decode cX5_walkFrom 132 = .ok (.iconst 1, 1) := by decide +kernel
theorem dX5_walkFrom_133 : decode cX5_walkFrom 133 = .ok (.iadd, 1) := by decide +kernel
theorem dX5_walkFrom_134 : decode cX5_walkFrom 134 = .ok (.iastore, 1) := by decide +kernel
theorem dX5_walkFrom_135 : decode cX5_walkFrom 135 = .ok (.aload_n 0, 1) := by decide +kernel
theorem dX5_walkFrom_136 : decode cX5_walkFrom 136 = .ok (.getfield 33, 3) := by decide +kernel
theorem dX5_walkFrom_139 : decode cX5_walkFrom 139 = .ok (.iload 7, 2) := by decide +kernel
theorem dX5_walkFrom_141 : decode cX5_walkFrom 141 = .ok (.iload 5, 2) := by decide +kernel
theorem dX5_walkFrom_143 : decode cX5_walkFrom 143 = .ok (.iload_n 1, 1) := by decide +kernel
theorem dX5_walkFrom_144 : decode cX5_walkFrom 144 = .ok (.if_icmp .ne 8, 3) := by decide +kernel
theorem dX5_walkFrom_147 : decode cX5_walkFrom 147 = .ok (.iload 6, 2) := by decide +kernel
theorem dX5_walkFrom_149 : decode cX5_walkFrom 149 = .ok (.goto 10, 3) := by decide +kernel
theorem dX5_walkFrom_152 : decode cX5_walkFrom 152 = .ok (.aload_n 0, 1) := by decide +kernel
theorem dX5_walkFrom_153 : decode cX5_walkFrom 153 = .ok (.getfield 33, 3) := by decide +kernel
theorem dX5_walkFrom_156 : decode cX5_walkFrom 156 = .ok (.iload 5, 2) := by decide +kernel
theorem dX5_walkFrom_158 : decode cX5_walkFrom 158 = .ok (.iaload, 1) := by decide +kernel
theorem dX5_walkFrom_159 : decode cX5_walkFrom 159 = .ok (.iastore, 1) := by decide +kernel
theorem dX5_walkFrom_160 : decode cX5_walkFrom 160 = .ok (.aload_n 0, 1) := by decide +kernel
theorem dX5_walkFrom_161 : decode cX5_walkFrom 161 = .ok (.getfield 36, 3) := by decide +kernel
theorem dX5_walkFrom_164 : decode cX5_walkFrom 164 = .ok (.iload_n 3, 1) := by decide +kernel
theorem dX5_walkFrom_165 : decode cX5_walkFrom 165 = .ok (.iinc 3 1, 3) := by decide +kernel
theorem dX5_walkFrom_168 : decode cX5_walkFrom 168 = .ok (.iload 7, 2) := by decide +kernel
theorem dX5_walkFrom_170 : decode cX5_walkFrom 170 = .ok (.iastore, 1) := by decide +kernel
theorem dX5_walkFrom_171 : decode cX5_walkFrom 171 = .ok (.iinc 6 1, 3) := by decide +kernel
theorem dX5_walkFrom_174 : decode cX5_walkFrom 174 = .ok (.goto (-112), 3) := by decide +kernel
theorem dX5_walkFrom_177 : decode cX5_walkFrom 177 = .ok (.iinc 4 1, 3) := by decide +kernel
theorem dX5_walkFrom_180 : decode cX5_walkFrom 180 = .ok (.goto (-143), 3) := by decide +kernel
theorem dX5_walkFrom_183 : decode cX5_walkFrom 183 = .ok (.return_, 1) := by decide +kernel
theorem dX5_isPassable_0 : decode cX5_isPassable 0 = .ok (.iload_n 2, 1) := by decide +kernel
theorem dX5_isPassable_1 : decode cX5_isPassable 1 = .ok (.ifCond .eq 32, 3) := by decide +kernel
theorem dX5_isPassable_4 : decode cX5_isPassable 4 = .ok (.aload_n 0, 1) := by decide +kernel
theorem dX5_isPassable_5 : decode cX5_isPassable 5 = .ok (.getfield 15, 3) := by decide +kernel
theorem dX5_isPassable_8 : decode cX5_isPassable 8 = .ok (.iload_n 1, 1) := by decide +kernel
theorem dX5_isPassable_9 : decode cX5_isPassable 9 = .ok (.iaload, 1) := by decide +kernel
theorem dX5_isPassable_10 : decode cX5_isPassable 10 = .ok (.bipush (-9), 2) := by decide +kernel
theorem dX5_isPassable_12 : decode cX5_isPassable 12 = .ok (.if_icmp .eq 21, 3) := by decide +kernel
theorem dX5_isPassable_15 : decode cX5_isPassable 15 = .ok (.aload_n 0, 1) := by decide +kernel
theorem dX5_isPassable_16 : decode cX5_isPassable 16 = .ok (.getfield 43, 3) := by decide +kernel
theorem dX5_isPassable_19 : decode cX5_isPassable 19 = .ok (.aload_n 0, 1) := by decide +kernel
theorem dX5_isPassable_20 : decode cX5_isPassable 20 = .ok (.getfield 15, 3) := by decide +kernel
theorem dX5_isPassable_23 : decode cX5_isPassable 23 = .ok (.iload_n 1, 1) := by decide +kernel
theorem dX5_isPassable_24 : decode cX5_isPassable 24 = .ok (.iaload, 1) := by decide +kernel
theorem dX5_isPassable_25 : decode cX5_isPassable 25 = .ok (.iconst 0, 1) := by decide +kernel
theorem dX5_isPassable_26 : decode cX5_isPassable 26 = .ok (.invokevirtual 105, 3) := by decide +kernel
theorem dX5_isPassable_29 : decode cX5_isPassable 29 = .ok (.iconst 1, 1) := by decide +kernel
theorem dX5_isPassable_30 : decode cX5_isPassable 30 = .ok (.if_icmp .ne 7, 3) := by decide +kernel
theorem dX5_isPassable_33 : decode cX5_isPassable 33 = .ok (.iconst 1, 1) := by decide +kernel
theorem dX5_isPassable_34 : decode cX5_isPassable 34 = .ok (.goto 4, 3) := by decide +kernel
theorem dX5_isPassable_37 : decode cX5_isPassable 37 = .ok (.iconst 0, 1) := by decide +kernel
theorem dX5_isPassable_38 : decode cX5_isPassable 38 = .ok (.ireturn, 1) := by decide +kernel
theorem dX6_init_0 : decode cX6_init 0 = .ok (.aload_n 0, 1) := by decide +kernel
theorem dX6_init_1 : decode cX6_init 1 = .ok (.invokespecial 3, 3) := by decide +kernel
theorem dX6_init_4 : decode cX6_init 4 = .ok (.aload_n 0, 1) := by decide +kernel
theorem dX6_init_5 : decode cX6_init 5 = .ok (.bipush 30, 2) := by decide +kernel
theorem dX6_init_7 : decode cX6_init 7 = .ok (.newarray .int, 2) := by decide +kernel
theorem dX6_init_9 : decode cX6_init 9 = .ok (.putfield 9, 3) := by decide +kernel
theorem dX6_init_12 : decode cX6_init 12 = .ok (.aload_n 0, 1) := by decide +kernel
theorem dX6_init_13 : decode cX6_init 13 = .ok (.aload_n 1, 1) := by decide +kernel
theorem dX6_init_14 : decode cX6_init 14 = .ok (.putfield 15, 3) := by decide +kernel
theorem dX6_init_17 : decode cX6_init 17 = .ok (.aload_n 0, 1) := by decide +kernel
theorem dX6_init_18 : decode cX6_init 18 = .ok (.getfield 9, 3) := by decide +kernel
theorem dX6_init_21 : decode cX6_init 21 = .ok (.sipush 255, 3) := by decide +kernel
theorem dX6_init_24 : decode cX6_init 24 = .ok (.invokestatic 19, 3) := by decide +kernel
theorem dX6_init_27 : decode cX6_init 27 = .ok (.return_, 1) := by decide +kernel
theorem dX6_placed_0 : decode cX6_placed 0 = .ok (.iload_n 0, 1) := by decide +kernel
theorem dX6_placed_1 : decode cX6_placed 1 = .ok (.sipush (-256), 3) := by decide +kernel
theorem dX6_placed_4 : decode cX6_placed 4 = .ok (.iand, 1) := by decide +kernel
theorem dX6_placed_5 : decode cX6_placed 5 = .ok (.iload_n 2, 1) := by decide +kernel
theorem dX6_placed_6 : decode cX6_placed 6 = .ok (.iconst 3, 1) := by decide +kernel
theorem dX6_placed_7 : decode cX6_placed 7 = .ok (.ishl, 1) := by decide +kernel
theorem dX6_placed_8 : decode cX6_placed 8 = .ok (.ior, 1) := by decide +kernel
theorem dX6_placed_9 : decode cX6_placed 9 = .ok (.iload_n 1, 1) := by decide +kernel
theorem dX6_placed_10 : decode cX6_placed 10 = .ok (.ior, 1) := by decide +kernel
theorem dX6_placed_11 : decode cX6_placed 11 = .ok (.ireturn, 1) := by decide +kernel
theorem dX6_flagged_0 : decode cX6_flagged 0 = .ok (.iconst 1, 1) := by decide +kernel
theorem dX6_flagged_1 : decode cX6_flagged 1 = .ok (.bipush 8, 2) := by decide +kernel
theorem dX6_flagged_3 : decode cX6_flagged 3 = .ok (.iload_n 1, 1) := by decide +kernel
theorem dX6_flagged_4 : decode cX6_flagged 4 = .ok (.iadd, 1) := by decide +kernel
theorem dX6_flagged_5 : decode cX6_flagged 5 = .ok (.ishl, 1) := by decide +kernel
theorem dX6_flagged_6 : decode cX6_flagged 6 = .ok (.istore_n 3, 1) := by decide +kernel
theorem dX6_flagged_7 : decode cX6_flagged 7 = .ok (.iload_n 2, 1) := by decide +kernel
theorem dX6_flagged_8 : decode cX6_flagged 8 = .ok (.ifCond .eq 9, 3) := by decide +kernel
theorem dX6_flagged_11 : decode cX6_flagged 11 = .ok (.iload_n 0, 1) := by decide +kernel
theorem dX6_flagged_12 : decode cX6_flagged 12 = .ok (.iload_n 3, 1) := by decide +kernel
theorem dX6_flagged_13 : decode cX6_flagged 13 = .ok (.ior, 1) := by decide +kernel
theorem dX6_flagged_14 : decode cX6_flagged 14 = .ok (.goto 8, 3) := by decide +kernel
theorem dX6_flagged_17 : decode cX6_flagged 17 = .ok (.iload_n 0, 1) := by decide +kernel
theorem dX6_flagged_18 : decode cX6_flagged 18 = .ok (.iload_n 3, 1) := by decide +kernel
theorem dX6_flagged_19 : decode cX6_flagged 19 = .ok (.iconst (-1), 1) := by decide +kernel
theorem dX6_flagged_20 : decode cX6_flagged 20 = .ok (.ixor, 1) := by decide +kernel
theorem dX6_flagged_21 : decode cX6_flagged 21 = .ok (.iand, 1) := by decide +kernel
theorem dX6_flagged_22 : decode cX6_flagged 22 = .ok (.ireturn, 1) := by decide +kernel
theorem dX6_formOf_0 : decode cX6_formOf 0 = .ok (.aload_n 0, 1) := by decide +kernel
theorem dX6_formOf_1 : decode cX6_formOf 1 = .ok (.getfield 9, 3) := by decide +kernel
theorem dX6_formOf_4 : decode cX6_formOf 4 = .ok (.iload_n 1, 1) := by decide +kernel
theorem dX6_formOf_5 : decode cX6_formOf 5 = .ok (.iaload, 1) := by decide +kernel
theorem dX6_formOf_6 : decode cX6_formOf 6 = .ok (.bipush 7, 2) := by decide +kernel
theorem dX6_formOf_8 : decode cX6_formOf 8 = .ok (.iand, 1) := by decide +kernel
theorem dX6_formOf_9 : decode cX6_formOf 9 = .ok (.istore_n 2, 1) := by decide +kernel
theorem dX6_formOf_10 : decode cX6_formOf 10 = .ok (.iload_n 2, 1) := by decide +kernel
theorem dX6_formOf_11 : decode cX6_formOf 11 = .ok (.bipush 7, 2) := by decide +kernel
theorem dX6_formOf_13 : decode cX6_formOf 13 = .ok (.if_icmp .ne 8, 3) := by decide +kernel
theorem dX6_formOf_16 : decode cX6_formOf 16 = .ok (.bipush (-9), 2) := by decide +kernel
theorem dX6_formOf_18 : decode cX6_formOf 18 = .ok (.goto 4, 3) := by decide +kernel
theorem dX6_formOf_21 : decode cX6_formOf 21 = .ok (.iload_n 2, 1) := by decide +kernel
theorem dX6_formOf_22 : decode cX6_formOf 22 = .ok (.ireturn, 1) := by decide +kernel
theorem dX6_holderOf_0 : decode cX6_holderOf 0 = .ok (.aload_n 0, 1) := by decide +kernel
theorem dX6_holderOf_1 : decode cX6_holderOf 1 = .ok (.getfield 9, 3) := by decide +kernel
theorem dX6_holderOf_4 : decode cX6_holderOf 4 = .ok (.iload_n 1, 1) := by decide +kernel
theorem dX6_holderOf_5 : decode cX6_holderOf 5 = .ok (.iaload, 1) := by decide +kernel
theorem dX6_holderOf_6 : decode cX6_holderOf 6 = .ok (.iconst 3, 1) := by decide +kernel
theorem dX6_holderOf_7 : decode cX6_holderOf 7 = .ok (.ishr, 1) := by decide +kernel
theorem dX6_holderOf_8 : decode cX6_holderOf 8 = .ok (.bipush 31, 2) := by decide +kernel
theorem dX6_holderOf_10 : decode cX6_holderOf 10 = .ok (.iand, 1) := by decide +kernel
theorem dX6_holderOf_11 : decode cX6_holderOf 11 = .ok (.istore_n 2, 1) := by decide +kernel
theorem dX6_holderOf_12 : decode cX6_holderOf 12 = .ok (.iload_n 2, 1) := by decide +kernel
theorem dX6_holderOf_13 : decode cX6_holderOf 13 = .ok (.bipush 31, 2) := by decide +kernel
theorem dX6_holderOf_15 : decode cX6_holderOf 15 = .ok (.if_icmp .ne 8, 3) := by decide +kernel
theorem dX6_holderOf_18 : decode cX6_holderOf 18 = .ok (.bipush (-9), 2) := by decide +kernel
theorem dX6_holderOf_20 : decode cX6_holderOf 20 = .ok (.goto 4, 3) := by decide +kernel
theorem dX6_holderOf_23 : decode cX6_holderOf 23 = .ok (.iload_n 2, 1) := by decide +kernel
theorem dX6_holderOf_24 : decode cX6_holderOf 24 = .ok (.ireturn, 1) := by decide +kernel
theorem dX6_lies_0 : decode cX6_lies 0 = .ok (.aload_n 0, 1) := by decide +kernel
theorem dX6_lies_1 : decode cX6_lies 1 = .ok (.getfield 9, 3) := by decide +kernel
theorem dX6_lies_4 : decode cX6_lies 4 = .ok (.iload_n 1, 1) := by decide +kernel
theorem dX6_lies_5 : decode cX6_lies 5 = .ok (.iaload, 1) := by decide +kernel
theorem dX6_lies_6 : decode cX6_lies 6 = .ok (.sipush 255, 3) := by decide +kernel
theorem dX6_lies_9 : decode cX6_lies 9 = .ok (.iand, 1) := by decide +kernel
theorem dX6_lies_10 : decode cX6_lies 10 = .ok (.iload_n 3, 1) := by decide +kernel
theorem dX6_lies_11 : decode cX6_lies 11 = .ok (.iconst 3, 1) := by decide +kernel
theorem dX6_lies_12 : decode cX6_lies 12 = .ok (.ishl, 1) := by decide +kernel
theorem dX6_lies_13 : decode cX6_lies 13 = .ok (.iload_n 2, 1) := by decide +kernel
theorem dX6_lies_14 : decode cX6_lies 14 = .ok (.ior, 1) := by decide +kernel
theorem dX6_lies_15 : decode cX6_lies 15 = .ok (.if_icmp .ne 7, 3) := by decide +kernel
theorem dX6_lies_18 : decode cX6_lies 18 = .ok (.iconst 1, 1) := by decide +kernel
theorem dX6_lies_19 : decode cX6_lies 19 = .ok (.goto 4, 3) := by decide +kernel
theorem dX6_lies_22 : decode cX6_lies 22 = .ok (.iconst 0, 1) := by decide +kernel
theorem dX6_lies_23 : decode cX6_lies 23 = .ok (.ireturn, 1) := by decide +kernel
theorem dX6_has_0 : decode cX6_has 0 = .ok (.aload_n 0, 1) := by decide +kernel
theorem dX6_has_1 : decode cX6_has 1 = .ok (.getfield 9, 3) := by decide +kernel
theorem dX6_has_4 : decode cX6_has 4 = .ok (.iload_n 1, 1) := by decide +kernel
theorem dX6_has_5 : decode cX6_has 5 = .ok (.iaload, 1) := by decide +kernel
theorem dX6_has_6 : decode cX6_has 6 = .ok (.bipush 8, 2) := by decide +kernel
theorem dX6_has_8 : decode cX6_has 8 = .ok (.iload_n 2, 1) := by decide +kernel
theorem dX6_has_9 : decode cX6_has 9 = .ok (.iadd, 1) := by decide +kernel
theorem dX6_has_10 : decode cX6_has 10 = .ok (.ishr, 1) := by decide +kernel
theorem dX6_has_11 : decode cX6_has 11 = .ok (.iconst 1, 1) := by decide +kernel
theorem dX6_has_12 : decode cX6_has 12 = .ok (.iand, 1) := by decide +kernel
theorem dX6_has_13 : decode cX6_has 13 = .ok (.iconst 1, 1) := by decide +kernel
theorem dX6_has_14 : decode cX6_has 14 = .ok (.if_icmp .ne 7, 3) := by decide +kernel
theorem dX6_has_17 : decode cX6_has 17 = .ok (.iconst 1, 1) := by decide +kernel
theorem dX6_has_18 : decode cX6_has 18 = .ok (.goto 4, 3) := by decide +kernel
theorem dX6_has_21 : decode cX6_has 21 = .ok (.iconst 0, 1) := by decide +kernel
theorem dX6_has_22 : decode cX6_has 22 = .ok (.ireturn, 1) := by decide +kernel
theorem dX6_isUp_0 : decode cX6_isUp 0 = .ok (.aload_n 0, 1) := by decide +kernel
theorem dX6_isUp_1 : decode cX6_isUp 1 = .ok (.iload_n 2, 1) := by decide +kernel
theorem dX6_isUp_2 : decode cX6_isUp 2 = .ok (.invokevirtual 25, 3) := by decide +kernel
theorem dX6_isUp_5 : decode cX6_isUp 5 = .ok (.istore_n 3, 1) := by decide +kernel
theorem dX6_isUp_6 : decode cX6_isUp 6 = .ok (.iconst 0, 1) := by decide +kernel
theorem dX6_isUp_7 : decode cX6_isUp 7 = .ok (.istore 4, 2) := by decide +kernel
theorem dX6_isUp_9 : decode cX6_isUp 9 = .ok (.iload 4, 2) := by decide +kernel
theorem dX6_isUp_11 : decode cX6_isUp 11 = .ok (.bipush 30, 2) := by decide +kernel
theorem dX6_isUp_13 : decode cX6_isUp 13 = .ok (.if_icmp .ge 28, 3) := by decide +kernel
theorem dX6_isUp_16 : decode cX6_isUp 16 = .ok (.iload_n 3, 1) := by decide +kernel
theorem dX6_isUp_17 : decode cX6_isUp 17 = .ok (.bipush (-9), 2) := by decide +kernel
theorem dX6_isUp_19 : decode cX6_isUp 19 = .ok (.if_icmp .eq 22, 3) := by decide +kernel
theorem dX6_isUp_22 : decode cX6_isUp 22 = .ok (.iload_n 3, 1) := by decide +kernel
theorem dX6_isUp_23 : decode cX6_isUp 23 = .ok (.iload_n 1, 1) := by decide +kernel
theorem dX6_isUp_24 : decode cX6_isUp 24 = .ok (.if_icmp .ne 5, 3) := by decide +kernel
theorem dX6_isUp_27 : decode cX6_isUp 27 = .ok (.iconst 1, 1) := by decide +kernel
theorem dX6_isUp_28 : decode cX6_isUp 28 = .ok (.ireturn, 1) := by decide +kernel
theorem dX6_isUp_29 : decode cX6_isUp 29 = .ok (.aload_n 0, 1) := by decide +kernel
theorem dX6_isUp_30 : decode cX6_isUp 30 = .ok (.iload_n 3, 1) := by decide +kernel
theorem dX6_isUp_31 : decode cX6_isUp 31 = .ok (.invokevirtual 25, 3) := by decide +kernel
theorem dX6_isUp_34 : decode cX6_isUp 34 = .ok (.istore_n 3, 1) := by decide +kernel
theorem dX6_isUp_35 : decode cX6_isUp 35 = .ok (.iinc 4 1, 3) := by decide +kernel
theorem dX6_isUp_38 : decode cX6_isUp 38 = .ok (.goto (-29), 3) := by decide +kernel
theorem dX6_isUp_41 : decode cX6_isUp 41 = .ok (.iconst 0, 1) := by decide +kernel
theorem dX6_isUp_42 : decode cX6_isUp 42 = .ok (.ireturn, 1) := by decide +kernel
theorem dX6_roomOf_0 : decode cX6_roomOf 0 = .ok (.iload_n 1, 1) := by decide +kernel
theorem dX6_roomOf_1 : decode cX6_roomOf 1 = .ok (.istore_n 2, 1) := by decide +kernel
theorem dX6_roomOf_2 : decode cX6_roomOf 2 = .ok (.iconst 0, 1) := by decide +kernel
theorem dX6_roomOf_3 : decode cX6_roomOf 3 = .ok (.istore_n 3, 1) := by decide +kernel
theorem dX6_roomOf_4 : decode cX6_roomOf 4 = .ok (.iload_n 3, 1) := by decide +kernel
theorem dX6_roomOf_5 : decode cX6_roomOf 5 = .ok (.bipush 30, 2) := by decide +kernel
theorem dX6_roomOf_7 : decode cX6_roomOf 7 = .ok (.if_icmp .gt 34, 3) := by decide +kernel
theorem dX6_roomOf_10 : decode cX6_roomOf 10 = .ok (.iload_n 2, 1) := by decide +kernel
theorem dX6_roomOf_11 : decode cX6_roomOf 11 = .ok (.bipush (-9), 2) := by decide +kernel
theorem dX6_roomOf_13 : decode cX6_roomOf 13 = .ok (.if_icmp .eq 28, 3) := by decide +kernel
theorem dX6_roomOf_16 : decode cX6_roomOf 16 = .ok (.aload_n 0, 1) := by decide +kernel
theorem dX6_roomOf_17 : decode cX6_roomOf 17 = .ok (.getfield 15, 3) := by decide +kernel
theorem dX6_roomOf_20 : decode cX6_roomOf 20 = .ok (.iload_n 2, 1) := by decide +kernel
theorem dX6_roomOf_21 : decode cX6_roomOf 21 = .ok (.invokevirtual 29, 3) := by decide +kernel
theorem dX6_roomOf_24 : decode cX6_roomOf 24 = .ok (.ifCond .ne 5, 3) := by decide +kernel
theorem dX6_roomOf_27 : decode cX6_roomOf 27 = .ok (.iload_n 2, 1) := by decide +kernel
theorem dX6_roomOf_28 : decode cX6_roomOf 28 = .ok (.ireturn, 1) := by decide +kernel
theorem dX6_roomOf_29 : decode cX6_roomOf 29 = .ok (.aload_n 0, 1) := by decide +kernel
theorem dX6_roomOf_30 : decode cX6_roomOf 30 = .ok (.iload_n 2, 1) := by decide +kernel
theorem dX6_roomOf_31 : decode cX6_roomOf 31 = .ok (.invokevirtual 25, 3) := by decide +kernel
theorem dX6_roomOf_34 : decode cX6_roomOf 34 = .ok (.istore_n 2, 1) := by decide +kernel
theorem dX6_roomOf_35 : decode cX6_roomOf 35 = .ok (.iinc 3 1, 3) := by decide +kernel
theorem dX6_roomOf_38 : decode cX6_roomOf 38 = .ok (.goto (-34), 3) := by decide +kernel
theorem dX6_roomOf_41 : decode cX6_roomOf 41 = .ok (.bipush (-9), 2) := by decide +kernel
theorem dX6_roomOf_43 : decode cX6_roomOf 43 = .ok (.ireturn, 1) := by decide +kernel
theorem dX6_countOf_0 : decode cX6_countOf 0 = .ok (.iconst 0, 1) := by decide +kernel
theorem dX6_countOf_1 : decode cX6_countOf 1 = .ok (.istore_n 3, 1) := by decide +kernel
theorem dX6_countOf_2 : decode cX6_countOf 2 = .ok (.iconst 0, 1) := by decide +kernel
theorem dX6_countOf_3 : decode cX6_countOf 3 = .ok (.istore 4, 2) := by decide +kernel
theorem dX6_countOf_5 : decode cX6_countOf 5 = .ok (.iload 4, 2) := by decide +kernel
theorem dX6_countOf_7 : decode cX6_countOf 7 = .ok (.aload_n 0, 1) := by decide +kernel
theorem dX6_countOf_8 : decode cX6_countOf 8 = .ok (.getfield 15, 3) := by decide +kernel
theorem dX6_countOf_11 : decode cX6_countOf 11 = .ok (.getfield 34, 3) := by decide +kernel
theorem dX6_countOf_14 : decode cX6_countOf 14 = .ok (.if_icmp .ge 23, 3) := by decide +kernel
theorem dX6_countOf_17 : decode cX6_countOf 17 = .ok (.aload_n 0, 1) := by decide +kernel
theorem dX6_countOf_18 : decode cX6_countOf 18 = .ok (.iload 4, 2) := by decide +kernel
theorem dX6_countOf_20 : decode cX6_countOf 20 = .ok (.iload_n 1, 1) := by decide +kernel
theorem dX6_countOf_21 : decode cX6_countOf 21 = .ok (.iload_n 2, 1) := by decide +kernel
theorem dX6_countOf_22 : decode cX6_countOf 22 = .ok (.invokevirtual 38, 3) := by decide +kernel
theorem dX6_countOf_25 : decode cX6_countOf 25 = .ok (.ifCond .eq 6, 3) := by decide +kernel
theorem dX6_countOf_28 : decode cX6_countOf 28 = .ok (.iinc 3 1, 3) := by decide +kernel
theorem dX6_countOf_31 : decode cX6_countOf 31 = .ok (.iinc 4 1, 3) := by decide +kernel
theorem dX6_countOf_34 : decode cX6_countOf 34 = .ok (.goto (-29), 3) := by decide +kernel
theorem dX6_countOf_37 : decode cX6_countOf 37 = .ok (.iload_n 3, 1) := by decide +kernel
theorem dX6_countOf_38 : decode cX6_countOf 38 = .ok (.ireturn, 1) := by decide +kernel
theorem dX7_init_0 : decode cX7_init 0 = .ok (.aload_n 0, 1) := by decide +kernel
theorem dX7_init_1 : decode cX7_init 1 = .ok (.invokespecial 3, 3) := by decide +kernel
theorem dX7_init_4 : decode cX7_init 4 = .ok (.aload_n 0, 1) := by decide +kernel
theorem dX7_init_5 : decode cX7_init 5 = .ok (.sipush 9000, 3) := by decide +kernel
theorem dX7_init_8 : decode cX7_init 8 = .ok (.newarray .int, 2) := by decide +kernel
theorem dX7_init_10 : decode cX7_init 10 = .ok (.putfield 9, 3) := by decide +kernel
theorem dX7_init_13 : decode cX7_init 13 = .ok (.aload_n 0, 1) := by decide +kernel
theorem dX7_init_14 : decode cX7_init 14 = .ok (.sipush 300, 3) := by decide +kernel
theorem dX7_init_17 : decode cX7_init 17 = .ok (.newarray .int, 2) := by decide +kernel
theorem dX7_init_19 : decode cX7_init 19 = .ok (.putfield 15, 3) := by decide +kernel
theorem dX7_init_22 : decode cX7_init 22 = .ok (.aload_n 0, 1) := by decide +kernel
theorem dX7_init_23 : decode cX7_init 23 = .ok (.sipush 1024, 3) := by decide +kernel
theorem dX7_init_26 : decode cX7_init 26 = .ok (.newarray .int, 2) := by decide +kernel
theorem dX7_init_28 : decode cX7_init 28 = .ok (.putfield 18, 3) := by decide +kernel
theorem dX7_init_31 : decode cX7_init 31 = .ok (.aload_n 0, 1) := by decide +kernel
theorem dX7_init_32 : decode cX7_init 32 = .ok (.sipush 300, 3) := by decide +kernel
theorem dX7_init_35 : decode cX7_init 35 = .ok (.newarray .int, 2) := by decide +kernel
theorem dX7_init_37 : decode cX7_init 37 = .ok (.putfield 21, 3) := by decide +kernel
theorem dX7_init_40 : decode cX7_init 40 = .ok (.aload_n 0, 1) := by decide +kernel
theorem dX7_init_41 : decode cX7_init 41 = .ok (.sipush 300, 3) := by decide +kernel
theorem dX7_init_44 : decode cX7_init 44 = .ok (.newarray .int, 2) := by decide +kernel
theorem dX7_init_46 : decode cX7_init 46 = .ok (.putfield 24, 3) := by decide +kernel
theorem dX7_init_49 : decode cX7_init 49 = .ok (.aload_n 0, 1) := by decide +kernel
theorem dX7_init_50 : decode cX7_init 50 = .ok (.sipush 300, 3) := by decide +kernel
theorem dX7_init_53 : decode cX7_init 53 = .ok (.newarray .int, 2) := by decide +kernel
theorem dX7_init_55 : decode cX7_init 55 = .ok (.putfield 27, 3) := by decide +kernel
theorem dX7_init_58 : decode cX7_init 58 = .ok (.aload_n 0, 1) := by decide +kernel
theorem dX7_init_59 : decode cX7_init 59 = .ok (.aload_n 1, 1) := by decide +kernel
theorem dX7_init_60 : decode cX7_init 60 = .ok (.putfield 30, 3) := by decide +kernel
theorem dX7_init_63 : decode cX7_init 63 = .ok (.aload_n 0, 1) := by decide +kernel
theorem dX7_init_64 : decode cX7_init 64 = .ok (.new 34, 3) := by decide +kernel
theorem dX7_init_67 : decode cX7_init 67 = .ok (.dup, 1) := by decide +kernel
theorem dX7_init_68 : decode cX7_init 68 = .ok (.aload_n 1, 1) := by decide +kernel
theorem dX7_init_69 : decode cX7_init 69 = .ok (.invokespecial 36, 3) := by decide +kernel
theorem dX7_init_72 : decode cX7_init 72 = .ok (.putfield 39, 3) := by decide +kernel
theorem dX7_init_75 : decode cX7_init 75 = .ok (.aload_n 0, 1) := by decide +kernel
theorem dX7_init_76 : decode cX7_init 76 = .ok (.new 43, 3) := by decide +kernel
theorem dX7_init_79 : decode cX7_init 79 = .ok (.dup, 1) := by decide +kernel
theorem dX7_init_80 : decode cX7_init 80 = .ok (.aload_n 1, 1) := by decide +kernel
theorem dX7_init_81 : decode cX7_init 81 = .ok (.aload_n 3, 1) := by decide +kernel
theorem dX7_init_82 : decode cX7_init 82 = .ok (.aload_n 0, 1) := by decide +kernel
theorem dX7_init_83 : decode cX7_init 83 = .ok (.getfield 39, 3) := by decide +kernel
theorem dX7_init_86 : decode cX7_init 86 = .ok (.invokespecial 45, 3) := by decide +kernel
theorem dX7_init_89 : decode cX7_init 89 = .ok (.putfield 48, 3) := by decide +kernel
theorem dX7_init_92 : decode cX7_init 92 = .ok (.aload_n 0, 1) := by decide +kernel
theorem dX7_init_93 : decode cX7_init 93 = .ok (.new 52, 3) := by decide +kernel
theorem dX7_init_96 : decode cX7_init 96 = .ok (.dup, 1) := by decide +kernel
theorem dX7_init_97 : decode cX7_init 97 = .ok (.aload_n 1, 1) := by decide +kernel
theorem dX7_init_98 : decode cX7_init 98 = .ok (.aload_n 2, 1) := by decide +kernel
theorem dX7_init_99 : decode cX7_init 99 = .ok (.aload_n 3, 1) := by decide +kernel
theorem dX7_init_100 : decode cX7_init 100 = .ok (.aload 4, 2) := by decide +kernel
theorem dX7_init_102 : decode cX7_init 102 = .ok (.aload_n 0, 1) := by decide +kernel
theorem dX7_init_103 : decode cX7_init 103 = .ok (.getfield 48, 3) := by decide +kernel
theorem dX7_init_106 : decode cX7_init 106 = .ok (.invokespecial 54, 3) := by decide +kernel
theorem dX7_init_109 : decode cX7_init 109 = .ok (.putfield 57, 3) := by decide +kernel
theorem dX7_init_112 : decode cX7_init 112 = .ok (.aload_n 0, 1) := by decide +kernel
theorem dX7_init_113 : decode cX7_init 113 = .ok (.bipush (-9), 2) := by decide +kernel
theorem dX7_init_115 : decode cX7_init 115 = .ok (.putfield 61, 3) := by decide +kernel
theorem dX7_init_118 : decode cX7_init 118 = .ok (.return_, 1) := by decide +kernel
theorem dX7_startFrom_0 : decode cX7_startFrom 0 = .ok (.aload_n 1, 1) := by decide +kernel
theorem dX7_startFrom_1 : decode cX7_startFrom 1 = .ok (.getfield 65, 3) := by decide +kernel
theorem dX7_startFrom_4 : decode cX7_startFrom 4 = .ok (.iconst 0, 1) := by decide +kernel
theorem dX7_startFrom_5 : decode cX7_startFrom 5 = .ok (.aload_n 0, 1) := by decide +kernel
theorem dX7_startFrom_6 : decode cX7_startFrom 6 = .ok (.getfield 39, 3) := by decide +kernel
theorem dX7_startFrom_9 : decode cX7_startFrom 9 = .ok (.getfield 65, 3) := by decide +kernel
theorem dX7_startFrom_12 : decode cX7_startFrom 12 = .ok (.iconst 0, 1) := by decide +kernel
theorem dX7_startFrom_13 : decode cX7_startFrom 13 = .ok (.bipush 30, 2) := by decide +kernel
theorem dX7_startFrom_15 : decode cX7_startFrom 15 = .ok (.invokestatic 68, 3) := by decide +kernel
theorem dX7_startFrom_18 : decode cX7_startFrom 18 = .ok (.aload_n 0, 1) := by decide +kernel
theorem dX7_startFrom_19 : decode cX7_startFrom 19 = .ok (.getfield 57, 3) := by decide +kernel
theorem dX7_startFrom_22 : decode cX7_startFrom 22 = .ok (.iload_n 2, 1) := by decide +kernel
theorem dX7_startFrom_23 : decode cX7_startFrom 23 = .ok (.putfield 74, 3) := by decide +kernel
theorem dX7_startFrom_26 : decode cX7_startFrom 26 = .ok (.return_, 1) := by decide +kernel
theorem dX7_search_0 : decode cX7_search 0 = .ok (.aload_n 0, 1) := by decide +kernel
theorem dX7_search_1 : decode cX7_search 1 = .ok (.iload_n 1, 1) := by decide +kernel
theorem dX7_search_2 : decode cX7_search 2 = .ok (.putfield 77, 3) := by decide +kernel
theorem dX7_search_5 : decode cX7_search 5 = .ok (.aload_n 0, 1) := by decide +kernel
theorem dX7_search_6 : decode cX7_search 6 = .ok (.iload_n 2, 1) := by decide +kernel
theorem dX7_search_7 : decode cX7_search 7 = .ok (.putfield 80, 3) := by decide +kernel
theorem dX7_search_10 : decode cX7_search 10 = .ok (.aload_n 0, 1) := by decide +kernel
theorem dX7_search_11 : decode cX7_search 11 = .ok (.bipush (-9), 2) := by decide +kernel
theorem dX7_search_13 : decode cX7_search 13 = .ok (.putfield 83, 3) := by decide +kernel
theorem dX7_search_16 : decode cX7_search 16 = .ok (.aload_n 0, 1) := by decide +kernel
theorem dX7_search_17 : decode cX7_search 17 = .ok (.iconst 0, 1) := by decide +kernel
theorem dX7_search_18 : decode cX7_search 18 = .ok (.putfield 86, 3) := by decide +kernel
theorem dX7_search_21 : decode cX7_search 21 = .ok (.aload_n 0, 1) := by decide +kernel
theorem dX7_search_22 : decode cX7_search 22 = .ok (.getfield 18, 3) := by decide +kernel
theorem dX7_search_25 : decode cX7_search 25 = .ok (.bipush (-9), 2) := by decide +kernel
theorem dX7_search_27 : decode cX7_search 27 = .ok (.invokestatic 89, 3) := by decide +kernel
theorem dX7_search_30 : decode cX7_search 30 = .ok (.aload_n 0, 1) := by decide +kernel
theorem dX7_search_31 : decode cX7_search 31 = .ok (.invokevirtual 95, 3) := by decide +kernel
theorem dX7_search_34 : decode cX7_search 34 = .ok (.istore 4, 2) := by decide +kernel
theorem dX7_search_36 : decode cX7_search 36 = .ok (.aload_n 0, 1) := by decide +kernel
theorem dX7_search_37 : decode cX7_search 37 = .ok (.iload 4, 2) := by decide +kernel
theorem dX7_search_39 : decode cX7_search 39 = .ok (.aload_n 0, 1) := by decide +kernel
theorem dX7_search_40 : decode cX7_search 40 = .ok (.iload 4, 2) := by decide +kernel
theorem dX7_search_42 : decode cX7_search 42 = .ok (.invokevirtual 99, 3) := by decide +kernel
theorem dX7_search_45 : decode cX7_search 45 = .ok (.bipush (-9), 2) := by decide +kernel
theorem dX7_search_47 : decode cX7_search 47 = .ok (.iconst 0, 1) := by decide +kernel
theorem dX7_search_48 : decode cX7_search 48 = .ok (.invokevirtual 103, 3) := by decide +kernel
theorem dX7_search_51 : decode cX7_search 51 = .ok (.iconst 0, 1) := by decide +kernel
theorem dX7_search_52 : decode cX7_search 52 = .ok (.istore 5, 2) := by decide +kernel
theorem dX7_search_54 : decode cX7_search 54 = .ok (.iload 5, 2) := by decide +kernel
theorem dX7_search_56 : decode cX7_search 56 = .ok (.iload_n 3, 1) := by decide +kernel
theorem dX7_search_57 : decode cX7_search 57 = .ok (.if_icmp .ge 31, 3) := by decide +kernel
theorem dX7_search_60 : decode cX7_search 60 = .ok (.iload 5, 2) := by decide +kernel
theorem dX7_search_62 : decode cX7_search 62 = .ok (.aload_n 0, 1) := by decide +kernel
theorem dX7_search_63 : decode cX7_search 63 = .ok (.getfield 86, 3) := by decide +kernel
theorem dX7_search_66 : decode cX7_search 66 = .ok (.if_icmp .ge 22, 3) := by decide +kernel
theorem dX7_search_69 : decode cX7_search 69 = .ok (.aload_n 0, 1) := by decide +kernel
theorem dX7_search_70 : decode cX7_search 70 = .ok (.invokevirtual 107, 3) := by decide +kernel
theorem dX7_search_73 : decode cX7_search 73 = .ok (.ifCond .ne 15, 3) := by decide +kernel
theorem dX7_search_76 : decode cX7_search 76 = .ok (.aload_n 0, 1) := by decide +kernel
theorem dX7_search_77 : decode cX7_search 77 = .ok (.iload 5, 2) := by decide +kernel
theorem dX7_search_79 : decode cX7_search 79 = .ok (.invokevirtual 111, 3) := by decide +kernel
theorem dX7_search_82 : decode cX7_search 82 = .ok (.iinc 5 1, 3) := by decide +kernel
theorem dX7_search_85 : decode cX7_search 85 = .ok (.goto (-31), 3) := by decide +kernel
theorem dX7_search_88 : decode cX7_search 88 = .ok (.aload_n 0, 1) := by decide +kernel
theorem dX7_search_89 : decode cX7_search 89 = .ok (.invokevirtual 115, 3) := by decide +kernel
theorem dX7_search_92 : decode cX7_search 92 = .ok (.aload_n 0, 1) := by decide +kernel
theorem dX7_search_93 : decode cX7_search 93 = .ok (.getfield 61, 3) := by decide +kernel
theorem dX7_search_96 : decode cX7_search 96 = .ok (.ireturn, 1) := by decide +kernel
theorem dX7_isEnded_0 : decode cX7_isEnded 0 = .ok (.aload_n 0, 1) := by decide +kernel
theorem dX7_isEnded_1 : decode cX7_isEnded 1 = .ok (.getfield 83, 3) := by decide +kernel
theorem dX7_isEnded_4 : decode cX7_isEnded 4 = .ok (.bipush (-9), 2) := by decide +kernel
theorem dX7_isEnded_6 : decode cX7_isEnded 6 = .ok (.if_icmp .ne 13, 3) := by decide +kernel
theorem dX7_isEnded_9 : decode cX7_isEnded 9 = .ok (.aload_n 0, 1) := by decide +kernel
theorem dX7_isEnded_10 : decode cX7_isEnded 10 = .ok (.getfield 86, 3) := by decide +kernel
theorem dX7_isEnded_13 : decode cX7_isEnded 13 = .ok (.sipush 300, 3) := by decide +kernel
theorem dX7_isEnded_16 : decode cX7_isEnded 16 = .ok (.if_icmp .lt 7, 3) := by decide +kernel
theorem dX7_isEnded_19 : decode cX7_isEnded 19 = .ok (.iconst 1, 1) := by decide +kernel
theorem dX7_isEnded_20 : decode cX7_isEnded 20 = .ok (.goto 4, 3) := by decide +kernel
theorem dX7_isEnded_23 : decode cX7_isEnded 23 = .ok (.iconst 0, 1) := by decide +kernel
theorem dX7_isEnded_24 : decode cX7_isEnded 24 = .ok (.ireturn, 1) := by decide +kernel
theorem dX7_tryFrom_0 : decode cX7_tryFrom 0 = .ok (.aload_n 0, 1) := by decide +kernel
theorem dX7_tryFrom_1 : decode cX7_tryFrom 1 = .ok (.getfield 9, 3) := by decide +kernel
theorem dX7_tryFrom_4 : decode cX7_tryFrom 4 = .ok (.iload_n 1, 1) := by decide +kernel
theorem dX7_tryFrom_5 : decode cX7_tryFrom 5 = .ok (.bipush 30, 2) := by decide +kernel
theorem dX7_tryFrom_7 : decode cX7_tryFrom 7 = .ok (.imul, 1) := by decide +kernel
theorem dX7_tryFrom_8 : decode cX7_tryFrom 8 = .ok (.aload_n 0, 1) := by decide +kernel
theorem dX7_tryFrom_9 : decode cX7_tryFrom 9 = .ok (.getfield 39, 3) := by decide +kernel
theorem dX7_tryFrom_12 : decode cX7_tryFrom 12 = .ok (.getfield 65, 3) := by decide +kernel
theorem dX7_tryFrom_15 : decode cX7_tryFrom 15 = .ok (.iconst 0, 1) := by decide +kernel
theorem dX7_tryFrom_16 : decode cX7_tryFrom 16 = .ok (.bipush 30, 2) := by decide +kernel
theorem dX7_tryFrom_18 : decode cX7_tryFrom 18 = .ok (.invokestatic 68, 3) := by decide +kernel
theorem dX7_tryFrom_21 : decode cX7_tryFrom 21 = .ok (.aload_n 0, 1) := by decide +kernel
theorem dX7_tryFrom_22 : decode cX7_tryFrom 22 = .ok (.getfield 48, 3) := by decide +kernel
theorem dX7_tryFrom_25 : decode cX7_tryFrom 25 = .ok (.aload_n 0, 1) := by decide +kernel
theorem dX7_tryFrom_26 : decode cX7_tryFrom 26 = .ok (.getfield 57, 3) := by decide +kernel
theorem dX7_tryFrom_29 : decode cX7_tryFrom 29 = .ok (.getfield 74, 3) := by decide +kernel
theorem dX7_tryFrom_32 : decode cX7_tryFrom 32 = .ok (.invokevirtual 118, 3) := by decide +kernel
theorem dX7_tryFrom_35 : decode cX7_tryFrom 35 = .ok (.iconst 0, 1) := by decide +kernel
theorem dX7_tryFrom_36 : decode cX7_tryFrom 36 = .ok (.istore_n 2, 1) := by decide +kernel
theorem dX7_tryFrom_37 : decode cX7_tryFrom 37 = .ok (.iload_n 2, 1) := by decide +kernel
theorem dX7_tryFrom_38 : decode cX7_tryFrom 38 = .ok (.bipush 11, 2) := by decide +kernel
theorem dX7_tryFrom_40 : decode cX7_tryFrom 40 = .ok (.if_icmp .gt 80, 3) := by decide +kernel
theorem dX7_tryFrom_43 : decode cX7_tryFrom 43 = .ok (.iload_n 2, 1) := by decide +kernel
theorem dX7_tryFrom_44 : decode cX7_tryFrom 44 = .ok (.ifCond .ne 8, 3) := by decide +kernel
theorem dX7_tryFrom_47 : decode cX7_tryFrom 47 = .ok (.bipush 10, 2) := by decide +kernel
theorem dX7_tryFrom_49 : decode cX7_tryFrom 49 = .ok (.goto 21, 3) := by decide +kernel
theorem dX7_tryFrom_52 : decode cX7_tryFrom 52 = .ok (.iload_n 2, 1) := by decide +kernel
theorem dX7_tryFrom_53 : decode cX7_tryFrom 53 = .ok (.invokestatic 121, 3) := by decide +kernel
theorem dX7_tryFrom_56 : decode cX7_tryFrom 56 = .ok (.ifCond .eq 13, 3) := by decide +kernel
theorem dX7_tryFrom_59 : decode cX7_tryFrom 59 = .ok (.aload_n 0, 1) := by decide +kernel
theorem dX7_tryFrom_60 : decode cX7_tryFrom 60 = .ok (.getfield 30, 3) := by decide +kernel
theorem dX7_tryFrom_63 : decode cX7_tryFrom 63 = .ok (.getfield 125, 3) := by decide +kernel
theorem dX7_tryFrom_66 : decode cX7_tryFrom 66 = .ok (.goto 4, 3) := by decide +kernel
theorem dX7_tryFrom_69 : decode cX7_tryFrom 69 = .ok (.iconst 1, 1) := by decide +kernel
theorem dX7_tryFrom_70 : decode cX7_tryFrom 70 = .ok (.istore_n 3, 1) := by decide +kernel
theorem dX7_tryFrom_71 : decode cX7_tryFrom 71 = .ok (.iconst 0, 1) := by decide +kernel
theorem dX7_tryFrom_72 : decode cX7_tryFrom 72 = .ok (.istore 4, 2) := by decide +kernel
theorem dX7_tryFrom_74 : decode cX7_tryFrom 74 = .ok (.iload 4, 2) := by decide +kernel
theorem dX7_tryFrom_76 : decode cX7_tryFrom 76 = .ok (.iload_n 3, 1) := by decide +kernel
theorem dX7_tryFrom_77 : decode cX7_tryFrom 77 = .ok (.if_icmp .ge 37, 3) := by decide +kernel
theorem dX7_tryFrom_80 : decode cX7_tryFrom 80 = .ok (.aload_n 0, 1) := by decide +kernel
theorem dX7_tryFrom_81 : decode cX7_tryFrom 81 = .ok (.invokevirtual 107, 3) := by decide +kernel
theorem dX7_tryFrom_84 : decode cX7_tryFrom 84 = .ok (.ifCond .ne 30, 3) := by decide +kernel
theorem dX7_tryFrom_87 : decode cX7_tryFrom 87 = .ok (.aload_n 0, 1) := by decide +kernel
theorem dX7_tryFrom_88 : decode cX7_tryFrom 88 = .ok (.getfield 57, 3) := by decide +kernel
theorem dX7_tryFrom_91 : decode cX7_tryFrom 91 = .ok (.iload_n 2, 1) := by decide +kernel
theorem dX7_tryFrom_92 : decode cX7_tryFrom 92 = .ok (.iload 4, 2) := by decide +kernel
theorem dX7_tryFrom_94 : decode cX7_tryFrom 94 = .ok (.invokevirtual 130, 3) := by decide +kernel
theorem dX7_tryFrom_97 : decode cX7_tryFrom 97 = .ok (.ifCond .ne 11, 3) := by decide +kernel
theorem dX7_tryFrom_100 : decode cX7_tryFrom 100 = .ok (.aload_n 0, 1) := by decide +kernel
theorem dX7_tryFrom_101 : decode cX7_tryFrom 101 = .ok (.iload_n 1, 1) := by decide +kernel
theorem dX7_tryFrom_102 : decode cX7_tryFrom 102 = .ok (.iload_n 2, 1) := by decide +kernel
theorem dX7_tryFrom_103 : decode cX7_tryFrom 103 = .ok (.iload 4, 2) := by decide +kernel
theorem dX7_tryFrom_105 : decode cX7_tryFrom 105 = .ok (.invokevirtual 134, 3) := by decide +kernel
theorem dX7_tryFrom_108 : decode cX7_tryFrom 108 = .ok (.iinc 4 1, 3) := by decide +kernel
theorem dX7_tryFrom_111 : decode cX7_tryFrom 111 = .ok (.goto (-37), 3) := by decide +kernel
theorem dX7_tryFrom_114 : decode cX7_tryFrom 114 = .ok (.iinc 2 1, 3) := by decide +kernel
theorem dX7_tryFrom_117 : decode cX7_tryFrom 117 = .ok (.goto (-80), 3) := by decide +kernel
theorem dX7_tryFrom_120 : decode cX7_tryFrom 120 = .ok (.return_, 1) := by decide +kernel
theorem dX7_tryWith_0 : decode cX7_tryWith 0 = .ok (.iload_n 2, 1) := by decide +kernel
theorem dX7_tryWith_1 : decode cX7_tryWith 1 = .ok (.invokestatic 138, 3) := by decide +kernel
theorem dX7_tryWith_4 : decode cX7_tryWith 4 = .ok (.ifCond .eq 13, 3) := by decide +kernel
theorem dX7_tryWith_7 : decode cX7_tryWith 7 = .ok (.aload_n 0, 1) := by decide +kernel
theorem dX7_tryWith_8 : decode cX7_tryWith 8 = .ok (.getfield 30, 3) := by decide +kernel
theorem dX7_tryWith_11 : decode cX7_tryWith 11 = .ok (.getfield 125, 3) := by decide +kernel
theorem dX7_tryWith_14 : decode cX7_tryWith 14 = .ok (.goto 4, 3) := by decide +kernel
theorem dX7_tryWith_17 : decode cX7_tryWith 17 = .ok (.iconst 1, 1) := by decide +kernel
theorem dX7_tryWith_18 : decode cX7_tryWith 18 = .ok (.istore 4, 2) := by decide +kernel
theorem dX7_tryWith_20 : decode cX7_tryWith 20 = .ok (.iconst 0, 1) := by decide +kernel
theorem dX7_tryWith_21 : decode cX7_tryWith 21 = .ok (.istore 5, 2) := by decide +kernel
theorem dX7_tryWith_23 : decode cX7_tryWith 23 = .ok (.iload 5, 2) := by decide +kernel
theorem dX7_tryWith_25 : decode cX7_tryWith 25 = .ok (.iload 4, 2) := by decide +kernel
theorem dX7_tryWith_27 : decode cX7_tryWith 27 = .ok (.if_icmp .ge 39, 3) := by decide +kernel
theorem dX7_tryWith_30 : decode cX7_tryWith 30 = .ok (.aload_n 0, 1) := by decide +kernel
theorem dX7_tryWith_31 : decode cX7_tryWith 31 = .ok (.invokevirtual 107, 3) := by decide +kernel
theorem dX7_tryWith_34 : decode cX7_tryWith 34 = .ok (.ifCond .ne 32, 3) := by decide +kernel
theorem dX7_tryWith_37 : decode cX7_tryWith 37 = .ok (.aload_n 0, 1) := by decide +kernel
theorem dX7_tryWith_38 : decode cX7_tryWith 38 = .ok (.getfield 57, 3) := by decide +kernel
theorem dX7_tryWith_41 : decode cX7_tryWith 41 = .ok (.iload_n 2, 1) := by decide +kernel
theorem dX7_tryWith_42 : decode cX7_tryWith 42 = .ok (.iload_n 3, 1) := by decide +kernel
theorem dX7_tryWith_43 : decode cX7_tryWith 43 = .ok (.iload 5, 2) := by decide +kernel
theorem dX7_tryWith_45 : decode cX7_tryWith 45 = .ok (.invokevirtual 141, 3) := by decide +kernel
theorem dX7_tryWith_48 : decode cX7_tryWith 48 = .ok (.ifCond .ne 12, 3) := by decide +kernel
theorem dX7_tryWith_51 : decode cX7_tryWith 51 = .ok (.aload_n 0, 1) := by decide +kernel
theorem dX7_tryWith_52 : decode cX7_tryWith 52 = .ok (.iload_n 1, 1) := by decide +kernel
theorem dX7_tryWith_53 : decode cX7_tryWith 53 = .ok (.iload_n 2, 1) := by decide +kernel
theorem dX7_tryWith_54 : decode cX7_tryWith 54 = .ok (.iload_n 3, 1) := by decide +kernel
theorem dX7_tryWith_55 : decode cX7_tryWith 55 = .ok (.iload 5, 2) := by decide +kernel
theorem dX7_tryWith_57 : decode cX7_tryWith 57 = .ok (.invokevirtual 145, 3) := by decide +kernel
theorem dX7_tryWith_60 : decode cX7_tryWith 60 = .ok (.iinc 5 1, 3) := by decide +kernel
theorem dX7_tryWith_63 : decode cX7_tryWith 63 = .ok (.goto (-40), 3) := by decide +kernel
theorem dX7_tryWith_66 : decode cX7_tryWith 66 = .ok (.return_, 1) := by decide +kernel
theorem dX7_step_0 : decode cX7_step 0 = .ok (.aload_n 0, 1) := by decide +kernel
theorem dX7_step_1 : decode cX7_step 1 = .ok (.getfield 57, 3) := by decide +kernel
theorem dX7_step_4 : decode cX7_step 4 = .ok (.iload_n 2, 1) := by decide +kernel
theorem dX7_step_5 : decode cX7_step 5 = .ok (.iload_n 3, 1) := by decide +kernel
theorem dX7_step_6 : decode cX7_step 6 = .ok (.invokevirtual 148, 3) := by decide +kernel
theorem dX7_step_9 : decode cX7_step 9 = .ok (.istore 5, 2) := by decide +kernel
theorem dX7_step_11 : decode cX7_step 11 = .ok (.aload_n 0, 1) := by decide +kernel
theorem dX7_step_12 : decode cX7_step 12 = .ok (.getfield 39, 3) := by decide +kernel
theorem dX7_step_15 : decode cX7_step 15 = .ok (.getfield 65, 3) := by decide +kernel
theorem dX7_step_18 : decode cX7_step 18 = .ok (.iload 5, 2) := by decide +kernel
theorem dX7_step_20 : decode cX7_step 20 = .ok (.iaload, 1) := by decide +kernel
theorem dX7_step_21 : decode cX7_step 21 = .ok (.istore 6, 2) := by decide +kernel
theorem dX7_step_23 : decode cX7_step 23 = .ok (.aload_n 0, 1) := by decide +kernel
theorem dX7_step_24 : decode cX7_step 24 = .ok (.getfield 57, 3) := by decide +kernel
theorem dX7_step_27 : decode cX7_step 27 = .ok (.iload_n 2, 1) := by decide +kernel
theorem dX7_step_28 : decode cX7_step 28 = .ok (.iload_n 3, 1) := by decide +kernel
theorem dX7_step_29 : decode cX7_step 29 = .ok (.iload 4, 2) := by decide +kernel
theorem dX7_step_31 : decode cX7_step 31 = .ok (.invokevirtual 151, 3) := by decide +kernel
theorem dX7_step_34 : decode cX7_step 34 = .ok (.istore 7, 2) := by decide +kernel
theorem dX7_step_36 : decode cX7_step 36 = .ok (.aload_n 0, 1) := by decide +kernel
theorem dX7_step_37 : decode cX7_step 37 = .ok (.getfield 15, 3) := by decide +kernel
theorem dX7_step_40 : decode cX7_step 40 = .ok (.iload_n 1, 1) := by decide +kernel
theorem dX7_step_41 : decode cX7_step 41 = .ok (.iaload, 1) := by decide +kernel
theorem dX7_step_42 : decode cX7_step 42 = .ok (.iload 7, 2) := by decide +kernel
theorem dX7_step_44 : decode cX7_step 44 = .ok (.iload 6, 2) := by decide +kernel
theorem dX7_step_46 : decode cX7_step 46 = .ok (.isub, 1) := by decide +kernel
theorem dX7_step_47 : decode cX7_step 47 = .ok (.iload 5, 2) := by decide +kernel
theorem dX7_step_49 : decode cX7_step 49 = .ok (.invokestatic 154, 3) := by decide +kernel
theorem dX7_step_52 : decode cX7_step 52 = .ok (.imul, 1) := by decide +kernel
theorem dX7_step_53 : decode cX7_step 53 = .ok (.iadd, 1) := by decide +kernel
theorem dX7_step_54 : decode cX7_step 54 = .ok (.istore 8, 2) := by decide +kernel
theorem dX7_step_56 : decode cX7_step 56 = .ok (.aload_n 0, 1) := by decide +kernel
theorem dX7_step_57 : decode cX7_step 57 = .ok (.getfield 39, 3) := by decide +kernel
theorem dX7_step_60 : decode cX7_step 60 = .ok (.getfield 65, 3) := by decide +kernel
theorem dX7_step_63 : decode cX7_step 63 = .ok (.iload 5, 2) := by decide +kernel
theorem dX7_step_65 : decode cX7_step 65 = .ok (.iload 7, 2) := by decide +kernel
theorem dX7_step_67 : decode cX7_step 67 = .ok (.iastore, 1) := by decide +kernel
theorem dX7_step_68 : decode cX7_step 68 = .ok (.aload_n 0, 1) := by decide +kernel
theorem dX7_step_69 : decode cX7_step 69 = .ok (.iload 8, 2) := by decide +kernel
theorem dX7_step_71 : decode cX7_step 71 = .ok (.invokevirtual 99, 3) := by decide +kernel
theorem dX7_step_74 : decode cX7_step 74 = .ok (.istore 9, 2) := by decide +kernel
theorem dX7_step_76 : decode cX7_step 76 = .ok (.aload_n 0, 1) := by decide +kernel
theorem dX7_step_77 : decode cX7_step 77 = .ok (.getfield 18, 3) := by decide +kernel
theorem dX7_step_80 : decode cX7_step 80 = .ok (.iload 9, 2) := by decide +kernel
theorem dX7_step_82 : decode cX7_step 82 = .ok (.iaload, 1) := by decide +kernel
theorem dX7_step_83 : decode cX7_step 83 = .ok (.bipush (-9), 2) := by decide +kernel
theorem dX7_step_85 : decode cX7_step 85 = .ok (.if_icmp .ne 19, 3) := by decide +kernel
theorem dX7_step_88 : decode cX7_step 88 = .ok (.aload_n 0, 1) := by decide +kernel
theorem dX7_step_89 : decode cX7_step 89 = .ok (.iload 8, 2) := by decide +kernel
theorem dX7_step_91 : decode cX7_step 91 = .ok (.iload 9, 2) := by decide +kernel
theorem dX7_step_93 : decode cX7_step 93 = .ok (.iload_n 1, 1) := by decide +kernel
theorem dX7_step_94 : decode cX7_step 94 = .ok (.iload_n 2, 1) := by decide +kernel
theorem dX7_step_95 : decode cX7_step 95 = .ok (.iload_n 3, 1) := by decide +kernel
theorem dX7_step_96 : decode cX7_step 96 = .ok (.iload 4, 2) := by decide +kernel
theorem dX7_step_98 : decode cX7_step 98 = .ok (.invokestatic 157, 3) := by decide +kernel
theorem dX7_step_101 : decode cX7_step 101 = .ok (.invokevirtual 103, 3) := by decide +kernel
theorem dX7_step_104 : decode cX7_step 104 = .ok (.aload_n 0, 1) := by decide +kernel
theorem dX7_step_105 : decode cX7_step 105 = .ok (.getfield 39, 3) := by decide +kernel
theorem dX7_step_108 : decode cX7_step 108 = .ok (.getfield 65, 3) := by decide +kernel
theorem dX7_step_111 : decode cX7_step 111 = .ok (.iload 5, 2) := by decide +kernel
theorem dX7_step_113 : decode cX7_step 113 = .ok (.iload 6, 2) := by decide +kernel
theorem dX7_step_115 : decode cX7_step 115 = .ok (.iastore, 1) := by decide +kernel
theorem dX7_step_116 : decode cX7_step 116 = .ok (.return_, 1) := by decide +kernel
theorem dX7_keep_0 : decode cX7_keep 0 = .ok (.aload_n 0, 1) := by decide +kernel
theorem dX7_keep_1 : decode cX7_keep 1 = .ok (.getfield 39, 3) := by decide +kernel
theorem dX7_keep_4 : decode cX7_keep 4 = .ok (.getfield 65, 3) := by decide +kernel
theorem dX7_keep_7 : decode cX7_keep 7 = .ok (.iconst 0, 1) := by decide +kernel
theorem dX7_keep_8 : decode cX7_keep 8 = .ok (.aload_n 0, 1) := by decide +kernel
theorem dX7_keep_9 : decode cX7_keep 9 = .ok (.getfield 9, 3) := by decide +kernel
theorem dX7_keep_12 : decode cX7_keep 12 = .ok (.aload_n 0, 1) := by decide +kernel
theorem dX7_keep_13 : decode cX7_keep 13 = .ok (.getfield 86, 3) := by decide +kernel
theorem dX7_keep_16 : decode cX7_keep 16 = .ok (.bipush 30, 2) := by decide +kernel
theorem dX7_keep_18 : decode cX7_keep 18 = .ok (.imul, 1) := by decide +kernel
theorem dX7_keep_19 : decode cX7_keep 19 = .ok (.bipush 30, 2) := by decide +kernel
theorem dX7_keep_21 : decode cX7_keep 21 = .ok (.invokestatic 68, 3) := by decide +kernel
theorem dX7_keep_24 : decode cX7_keep 24 = .ok (.aload_n 0, 1) := by decide +kernel
theorem dX7_keep_25 : decode cX7_keep 25 = .ok (.getfield 15, 3) := by decide +kernel
theorem dX7_keep_28 : decode cX7_keep 28 = .ok (.aload_n 0, 1) := by decide +kernel
theorem dX7_keep_29 : decode cX7_keep 29 = .ok (.getfield 86, 3) := by decide +kernel
theorem dX7_keep_32 : decode cX7_keep 32 = .ok (.iload_n 1, 1) := by decide +kernel
theorem dX7_keep_33 : decode cX7_keep 33 = .ok (.iastore, 1) := by decide +kernel
theorem dX7_keep_34 : decode cX7_keep 34 = .ok (.aload_n 0, 1) := by decide +kernel
theorem dX7_keep_35 : decode cX7_keep 35 = .ok (.getfield 21, 3) := by decide +kernel
theorem dX7_keep_38 : decode cX7_keep 38 = .ok (.aload_n 0, 1) := by decide +kernel
theorem dX7_keep_39 : decode cX7_keep 39 = .ok (.getfield 86, 3) := by decide +kernel
theorem dX7_keep_42 : decode cX7_keep 42 = .ok (.iload_n 3, 1) := by decide +kernel
theorem dX7_keep_43 : decode cX7_keep 43 = .ok (.iastore, 1) := by decide +kernel
theorem dX7_keep_44 : decode cX7_keep 44 = .ok (.aload_n 0, 1) := by decide +kernel
theorem dX7_keep_45 : decode cX7_keep 45 = .ok (.getfield 24, 3) := by decide +kernel
theorem dX7_keep_48 : decode cX7_keep 48 = .ok (.aload_n 0, 1) := by decide +kernel
theorem dX7_keep_49 : decode cX7_keep 49 = .ok (.getfield 86, 3) := by decide +kernel
theorem dX7_keep_52 : decode cX7_keep 52 = .ok (.iload 4, 2) := by decide +kernel
theorem dX7_keep_54 : decode cX7_keep 54 = .ok (.iastore, 1) := by decide +kernel
theorem dX7_keep_55 : decode cX7_keep 55 = .ok (.aload_n 0, 1) := by decide +kernel
theorem dX7_keep_56 : decode cX7_keep 56 = .ok (.getfield 18, 3) := by decide +kernel
theorem dX7_keep_59 : decode cX7_keep 59 = .ok (.iload_n 2, 1) := by decide +kernel
theorem dX7_keep_60 : decode cX7_keep 60 = .ok (.aload_n 0, 1) := by decide +kernel
theorem dX7_keep_61 : decode cX7_keep 61 = .ok (.getfield 86, 3) := by decide +kernel
theorem dX7_keep_64 : decode cX7_keep 64 = .ok (.iastore, 1) := by decide +kernel
theorem dX7_keep_65 : decode cX7_keep 65 = .ok (.aload_n 0, 1) := by decide +kernel
theorem dX7_keep_66 : decode cX7_keep 66 = .ok (.getfield 39, 3) := by decide +kernel
theorem dX7_keep_69 : decode cX7_keep 69 = .ok (.aload_n 0, 1) := by decide +kernel
theorem dX7_keep_70 : decode cX7_keep 70 = .ok (.getfield 77, 3) := by decide +kernel
theorem dX7_keep_73 : decode cX7_keep 73 = .ok (.invokevirtual 160, 3) := by decide +kernel
theorem dX7_keep_76 : decode cX7_keep 76 = .ok (.aload_n 0, 1) := by decide +kernel
