theorem dX12_holds_4 : decode cX12_holds 4 = .ok (.iload_n 1, 1) := o_27 (u1_4 hc_X12_holds_0 rfl) rfl
theorem dX12_holds_5 : decode cX12_holds 5 = .ok (.iaload, 1) := o_46 (u1_5 hc_X12_holds_0 rfl) rfl
theorem dX12_holds_6 : decode cX12_holds 6 = .ok (.iconst 2, 1) := o_5 (u1_6 hc_X12_holds_0 rfl) rfl
theorem dX12_holds_7 : decode cX12_holds 7 = .ok (.if_icmp .ne 20, 3) := o_160 (u1_7 hc_X12_holds_0 rfl) (s2_d (u2_d (u1_8 hc_X12_holds_0 rfl) (u1_9 hc_X12_holds_0 rfl) rfl) rfl) rfl
theorem dX12_holds_10 : decode cX12_holds 10 = .ok (.aload_n 0, 1) := o_42 (u1_10 hc_X12_holds_0 rfl) rfl
theorem dX12_holds_11 : decode cX12_holds 11 = .ok (.getfield 53, 3) := o_180 (u1_11 hc_X12_holds_0 rfl) (u2_d (u1_12 hc_X12_holds_0 rfl) (u1_13 hc_X12_holds_0 rfl) rfl) rfl
theorem dX12_holds_14 : decode cX12_holds 14 = .ok (.iload_n 1, 1) := o_27 (u1_14 hc_X12_holds_0 rfl) rfl
theorem dX12_holds_15 : decode cX12_holds 15 = .ok (.iaload, 1) := o_46 (u1_15 hc_X12_holds_0 rfl) rfl
theorem hc_X12_holds_16 : ((bL cX12_holds).drop 16).take 18 = [42, 180, 0, 155, 160, 0, 7, 4, 167, 0, 4, 3, 172] := by decide +kernel
theorem dX12_holds_16 : decode cX12_holds 16 = .ok (.aload_n 0, 1) := o_42 (u1_0 hc_X12_holds_16 rfl) rfl
theorem dX12_holds_17 : decode cX12_holds 17 = .ok (.getfield 155, 3) := o_180 (u1_1 hc_X12_holds_16 rfl) (u2_d (u1_2 hc_X12_holds_16 rfl) (u1_3 hc_X12_holds_16 rfl) rfl) rfl
theorem dX12_holds_20 : decode cX12_holds 20 = .ok (.if_icmp .ne 7, 3) := o_160 (u1_4 hc_X12_holds_16 rfl) (s2_d (u2_d (u1_5 hc_X12_holds_16 rfl) (u1_6 hc_X12_holds_16 rfl) rfl) rfl) rfl
theorem dX12_holds_23 : decode cX12_holds 23 = .ok (.iconst 1, 1) := o_4 (u1_7 hc_X12_holds_16 rfl) rfl
theorem dX12_holds_24 : decode cX12_holds 24 = .ok (.goto 4, 3) := o_167 (u1_8 hc_X12_holds_16 rfl) (s2_d (u2_d (u1_9 hc_X12_holds_16 rfl) (u1_10 hc_X12_holds_16 rfl) rfl) rfl) rfl
theorem dX12_holds_27 : decode cX12_holds 27 = .ok (.iconst 0, 1) := o_3 (u1_11 hc_X12_holds_16 rfl) rfl
theorem dX12_holds_28 : decode cX12_holds 28 = .ok (.ireturn, 1) := o_172 (u1_12 hc_X12_holds_16 rfl) rfl
theorem hc_X12_lying_0 : ((bL cX12_lying).drop 0).take 18 = [3, 62, 3, 54, 4, 21, 4, 42, 180, 0, 177, 162, 0, 39, 29, 42, 180, 0] := by decide +kernel
theorem dX12_lying_0 : decode cX12_lying 0 = .ok (.iconst 0, 1) := o_3 (u1_0 hc_X12_lying_0 rfl) rfl
theorem dX12_lying_1 : decode cX12_lying 1 = .ok (.istore_n 3, 1) := o_62 (u1_1 hc_X12_lying_0 rfl) rfl
theorem dX12_lying_2 : decode cX12_lying 2 = .ok (.iconst 0, 1) := o_3 (u1_2 hc_X12_lying_0 rfl) rfl
theorem dX12_lying_3 : decode cX12_lying 3 = .ok (.istore 4, 2) := o_54 (u1_3 hc_X12_lying_0 rfl) (u1_4 hc_X12_lying_0 rfl) rfl
theorem dX12_lying_5 : decode cX12_lying 5 = .ok (.iload 4, 2) := o_21 (u1_5 hc_X12_lying_0 rfl) (u1_6 hc_X12_lying_0 rfl) rfl
theorem dX12_lying_7 : decode cX12_lying 7 = .ok (.aload_n 0, 1) := o_42 (u1_7 hc_X12_lying_0 rfl) rfl
theorem dX12_lying_8 : decode cX12_lying 8 = .ok (.getfield 177, 3) := o_180 (u1_8 hc_X12_lying_0 rfl) (u2_d (u1_9 hc_X12_lying_0 rfl) (u1_10 hc_X12_lying_0 rfl) rfl) rfl
theorem dX12_lying_11 : decode cX12_lying 11 = .ok (.if_icmp .ge 39, 3) := o_162 (u1_11 hc_X12_lying_0 rfl) (s2_d (u2_d (u1_12 hc_X12_lying_0 rfl) (u1_13 hc_X12_lying_0 rfl) rfl) rfl) rfl
theorem dX12_lying_14 : decode cX12_lying 14 = .ok (.iload_n 3, 1) := o_29 (u1_14 hc_X12_lying_0 rfl) rfl
theorem dX12_lying_15 : decode cX12_lying 15 = .ok (.aload_n 0, 1) := o_42 (u1_15 hc_X12_lying_0 rfl) rfl
theorem hc_X12_lying_16 : ((bL cX12_lying).drop 16).take 18 = [180, 0, 50, 21, 4, 46, 27, 160, 0, 18, 42, 180, 0, 53, 21, 4, 46, 28] := by decide +kernel
theorem dX12_lying_16 : decode cX12_lying 16 = .ok (.getfield 50, 3) := o_180 (u1_0 hc_X12_lying_16 rfl) (u2_d (u1_1 hc_X12_lying_16 rfl) (u1_2 hc_X12_lying_16 rfl) rfl) rfl
theorem dX12_lying_19 : decode cX12_lying 19 = .ok (.iload 4, 2) := o_21 (u1_3 hc_X12_lying_16 rfl) (u1_4 hc_X12_lying_16 rfl) rfl
theorem dX12_lying_21 : decode cX12_lying 21 = .ok (.iaload, 1) := o_46 (u1_5 hc_X12_lying_16 rfl) rfl
theorem dX12_lying_22 : decode cX12_lying 22 = .ok (.iload_n 1, 1) := o_27 (u1_6 hc_X12_lying_16 rfl) rfl
theorem dX12_lying_23 : decode cX12_lying 23 = .ok (.if_icmp .ne 18, 3) := o_160 (u1_7 hc_X12_lying_16 rfl) (s2_d (u2_d (u1_8 hc_X12_lying_16 rfl) (u1_9 hc_X12_lying_16 rfl) rfl) rfl) rfl
theorem dX12_lying_26 : decode cX12_lying 26 = .ok (.aload_n 0, 1) := o_42 (u1_10 hc_X12_lying_16 rfl) rfl
theorem dX12_lying_27 : decode cX12_lying 27 = .ok (.getfield 53, 3) := o_180 (u1_11 hc_X12_lying_16 rfl) (u2_d (u1_12 hc_X12_lying_16 rfl) (u1_13 hc_X12_lying_16 rfl) rfl) rfl
theorem dX12_lying_30 : decode cX12_lying 30 = .ok (.iload 4, 2) := o_21 (u1_14 hc_X12_lying_16 rfl) (u1_15 hc_X12_lying_16 rfl) rfl
theorem hc_X12_lying_32 : ((bL cX12_lying).drop 32).take 18 = [46, 28, 160, 0, 7, 4, 167, 0, 4, 3, 96, 62, 132, 4, 1, 167, 255, 214] := by decide +kernel
theorem dX12_lying_32 : decode cX12_lying 32 = .ok (.iaload, 1) := o_46 (u1_0 hc_X12_lying_32 rfl) rfl
theorem dX12_lying_33 : decode cX12_lying 33 = .ok (.iload_n 2, 1) := o_28 (u1_1 hc_X12_lying_32 rfl) rfl
theorem dX12_lying_34 : decode cX12_lying 34 = .ok (.if_icmp .ne 7, 3) := o_160 (u1_2 hc_X12_lying_32 rfl) (s2_d (u2_d (u1_3 hc_X12_lying_32 rfl) (u1_4 hc_X12_lying_32 rfl) rfl) rfl) rfl
theorem dX12_lying_37 : decode cX12_lying 37 = .ok (.iconst 1, 1) := o_4 (u1_5 hc_X12_lying_32 rfl) rfl
theorem dX12_lying_38 : decode cX12_lying 38 = .ok (.goto 4, 3) := o_167 (u1_6 hc_X12_lying_32 rfl) (s2_d (u2_d (u1_7 hc_X12_lying_32 rfl) (u1_8 hc_X12_lying_32 rfl) rfl) rfl) rfl
theorem dX12_lying_41 : decode cX12_lying 41 = .ok (.iconst 0, 1) := o_3 (u1_9 hc_X12_lying_32 rfl) rfl
theorem dX12_lying_42 : decode cX12_lying 42 = .ok (.iadd, 1) := o_96 (u1_10 hc_X12_lying_32 rfl) rfl
theorem dX12_lying_43 : decode cX12_lying 43 = .ok (.istore_n 3, 1) := o_62 (u1_11 hc_X12_lying_32 rfl) rfl
theorem dX12_lying_44 : decode cX12_lying 44 = .ok (.iinc 4 1, 3) := o_132 (u1_12 hc_X12_lying_32 rfl) (u1_13 hc_X12_lying_32 rfl) (s1_d (u1_14 hc_X12_lying_32 rfl) rfl) rfl
theorem dX12_lying_47 : decode cX12_lying 47 = .ok (.goto (-42), 3) := o_167 (u1_15 hc_X12_lying_32 rfl) (s2_d (u2_d (u1_16 hc_X12_lying_32 rfl) (u1_17 hc_X12_lying_32 rfl) rfl) rfl) rfl
theorem hc_X12_lying_48 : ((bL cX12_lying).drop 48).take 18 = [255, 214, 29, 172] := by decide +kernel
theorem dX12_lying_50 : decode cX12_lying 50 = .ok (.iload_n 3, 1) := o_29 (u1_2 hc_X12_lying_48 rfl) rfl
theorem dX12_lying_51 : decode cX12_lying 51 = .ok (.ireturn, 1) := o_172 (u1_3 hc_X12_lying_48 rfl) rfl
theorem hc_X12_isInRoom_0 : ((bL cX12_isInRoom).drop 0).take 18 = [42, 180, 0, 50, 42, 180, 0, 155, 46, 154, 0, 24, 42, 180, 0, 101, 42, 180] := by decide +kernel
theorem dX12_isInRoom_0 : decode cX12_isInRoom 0 = .ok (.aload_n 0, 1) := o_42 (u1_0 hc_X12_isInRoom_0 rfl) rfl
theorem dX12_isInRoom_1 : decode cX12_isInRoom 1 = .ok (.getfield 50, 3) := o_180 (u1_1 hc_X12_isInRoom_0 rfl) (u2_d (u1_2 hc_X12_isInRoom_0 rfl) (u1_3 hc_X12_isInRoom_0 rfl) rfl) rfl
theorem dX12_isInRoom_4 : decode cX12_isInRoom 4 = .ok (.aload_n 0, 1) := o_42 (u1_4 hc_X12_isInRoom_0 rfl) rfl
theorem dX12_isInRoom_5 : decode cX12_isInRoom 5 = .ok (.getfield 155, 3) := o_180 (u1_5 hc_X12_isInRoom_0 rfl) (u2_d (u1_6 hc_X12_isInRoom_0 rfl) (u1_7 hc_X12_isInRoom_0 rfl) rfl) rfl
theorem dX12_isInRoom_8 : decode cX12_isInRoom 8 = .ok (.iaload, 1) := o_46 (u1_8 hc_X12_isInRoom_0 rfl) rfl
theorem dX12_isInRoom_9 : decode cX12_isInRoom 9 = .ok (.ifCond .ne 24, 3) := o_154 (u1_9 hc_X12_isInRoom_0 rfl) (s2_d (u2_d (u1_10 hc_X12_isInRoom_0 rfl) (u1_11 hc_X12_isInRoom_0 rfl) rfl) rfl) rfl
theorem dX12_isInRoom_12 : decode cX12_isInRoom 12 = .ok (.aload_n 0, 1) := o_42 (u1_12 hc_X12_isInRoom_0 rfl) rfl
theorem dX12_isInRoom_13 : decode cX12_isInRoom 13 = .ok (.getfield 101, 3) := o_180 (u1_13 hc_X12_isInRoom_0 rfl) (u2_d (u1_14 hc_X12_isInRoom_0 rfl) (u1_15 hc_X12_isInRoom_0 rfl) rfl) rfl
theorem hc_X12_isInRoom_16 : ((bL cX12_isInRoom).drop 16).take 18 = [42, 180, 0, 53, 42, 180, 0, 155, 46, 51, 153, 0, 7, 4, 167, 0, 4, 3] := by decide +kernel
theorem dX12_isInRoom_16 : decode cX12_isInRoom 16 = .ok (.aload_n 0, 1) := o_42 (u1_0 hc_X12_isInRoom_16 rfl) rfl
theorem dX12_isInRoom_17 : decode cX12_isInRoom 17 = .ok (.getfield 53, 3) := o_180 (u1_1 hc_X12_isInRoom_16 rfl) (u2_d (u1_2 hc_X12_isInRoom_16 rfl) (u1_3 hc_X12_isInRoom_16 rfl) rfl) rfl
theorem dX12_isInRoom_20 : decode cX12_isInRoom 20 = .ok (.aload_n 0, 1) := o_42 (u1_4 hc_X12_isInRoom_16 rfl) rfl
theorem dX12_isInRoom_21 : decode cX12_isInRoom 21 = .ok (.getfield 155, 3) := o_180 (u1_5 hc_X12_isInRoom_16 rfl) (u2_d (u1_6 hc_X12_isInRoom_16 rfl) (u1_7 hc_X12_isInRoom_16 rfl) rfl) rfl
theorem dX12_isInRoom_24 : decode cX12_isInRoom 24 = .ok (.iaload, 1) := o_46 (u1_8 hc_X12_isInRoom_16 rfl) rfl
theorem dX12_isInRoom_25 : decode cX12_isInRoom 25 = .ok (.baload, 1) := o_51 (u1_9 hc_X12_isInRoom_16 rfl) rfl
theorem dX12_isInRoom_26 : decode cX12_isInRoom 26 = .ok (.ifCond .eq 7, 3) := o_153 (u1_10 hc_X12_isInRoom_16 rfl) (s2_d (u2_d (u1_11 hc_X12_isInRoom_16 rfl) (u1_12 hc_X12_isInRoom_16 rfl) rfl) rfl) rfl
theorem dX12_isInRoom_29 : decode cX12_isInRoom 29 = .ok (.iconst 1, 1) := o_4 (u1_13 hc_X12_isInRoom_16 rfl) rfl
theorem dX12_isInRoom_30 : decode cX12_isInRoom 30 = .ok (.goto 4, 3) := o_167 (u1_14 hc_X12_isInRoom_16 rfl) (s2_d (u2_d (u1_15 hc_X12_isInRoom_16 rfl) (u1_16 hc_X12_isInRoom_16 rfl) rfl) rfl) rfl
theorem hc_X12_isInRoom_32 : ((bL cX12_isInRoom).drop 32).take 18 = [4, 3, 172] := by decide +kernel
theorem dX12_isInRoom_33 : decode cX12_isInRoom 33 = .ok (.iconst 0, 1) := o_3 (u1_1 hc_X12_isInRoom_32 rfl) rfl
theorem dX12_isInRoom_34 : decode cX12_isInRoom 34 = .ok (.ireturn, 1) := o_172 (u1_2 hc_X12_isInRoom_32 rfl) rfl
theorem hc_X12_whyNotGo_0 : ((bL cX12_whyNotGo).drop 0).take 18 = [42, 182, 1, 92, 154, 0, 5, 4, 172, 42, 42, 180, 0, 53, 42, 180, 0, 155] := by decide +kernel
theorem dX12_whyNotGo_0 : decode cX12_whyNotGo 0 = .ok (.aload_n 0, 1) := o_42 (u1_0 hc_X12_whyNotGo_0 rfl) rfl
theorem dX12_whyNotGo_1 : decode cX12_whyNotGo 1 = .ok (.invokevirtual 348, 3) := o_182 (u1_1 hc_X12_whyNotGo_0 rfl) (u2_d (u1_2 hc_X12_whyNotGo_0 rfl) (u1_3 hc_X12_whyNotGo_0 rfl) rfl) rfl
theorem dX12_whyNotGo_4 : decode cX12_whyNotGo 4 = .ok (.ifCond .ne 5, 3) := o_154 (u1_4 hc_X12_whyNotGo_0 rfl) (s2_d (u2_d (u1_5 hc_X12_whyNotGo_0 rfl) (u1_6 hc_X12_whyNotGo_0 rfl) rfl) rfl) rfl
theorem dX12_whyNotGo_7 : decode cX12_whyNotGo 7 = .ok (.iconst 1, 1) := o_4 (u1_7 hc_X12_whyNotGo_0 rfl) rfl
theorem dX12_whyNotGo_8 : decode cX12_whyNotGo 8 = .ok (.ireturn, 1) := o_172 (u1_8 hc_X12_whyNotGo_0 rfl) rfl
theorem dX12_whyNotGo_9 : decode cX12_whyNotGo 9 = .ok (.aload_n 0, 1) := o_42 (u1_9 hc_X12_whyNotGo_0 rfl) rfl
theorem dX12_whyNotGo_10 : decode cX12_whyNotGo 10 = .ok (.aload_n 0, 1) := o_42 (u1_10 hc_X12_whyNotGo_0 rfl) rfl
theorem dX12_whyNotGo_11 : decode cX12_whyNotGo 11 = .ok (.getfield 53, 3) := o_180 (u1_11 hc_X12_whyNotGo_0 rfl) (u2_d (u1_12 hc_X12_whyNotGo_0 rfl) (u1_13 hc_X12_whyNotGo_0 rfl) rfl) rfl
theorem dX12_whyNotGo_14 : decode cX12_whyNotGo 14 = .ok (.aload_n 0, 1) := o_42 (u1_14 hc_X12_whyNotGo_0 rfl) rfl
theorem dX12_whyNotGo_15 : decode cX12_whyNotGo 15 = .ok (.getfield 155, 3) := o_180 (u1_15 hc_X12_whyNotGo_0 rfl) (u2_d (u1_16 hc_X12_whyNotGo_0 rfl) (u1_17 hc_X12_whyNotGo_0 rfl) rfl) rfl
theorem hc_X12_whyNotGo_16 : ((bL cX12_whyNotGo).drop 16).take 18 = [0, 155, 46, 27, 182, 1, 25, 153, 0, 12, 42, 180, 1, 7, 16, 247, 160, 0] := by decide +kernel
theorem dX12_whyNotGo_18 : decode cX12_whyNotGo 18 = .ok (.iaload, 1) := o_46 (u1_2 hc_X12_whyNotGo_16 rfl) rfl
theorem dX12_whyNotGo_19 : decode cX12_whyNotGo 19 = .ok (.iload_n 1, 1) := o_27 (u1_3 hc_X12_whyNotGo_16 rfl) rfl
theorem dX12_whyNotGo_20 : decode cX12_whyNotGo 20 = .ok (.invokevirtual 281, 3) := o_182 (u1_4 hc_X12_whyNotGo_16 rfl) (u2_d (u1_5 hc_X12_whyNotGo_16 rfl) (u1_6 hc_X12_whyNotGo_16 rfl) rfl) rfl
theorem dX12_whyNotGo_23 : decode cX12_whyNotGo 23 = .ok (.ifCond .eq 12, 3) := o_153 (u1_7 hc_X12_whyNotGo_16 rfl) (s2_d (u2_d (u1_8 hc_X12_whyNotGo_16 rfl) (u1_9 hc_X12_whyNotGo_16 rfl) rfl) rfl) rfl
theorem dX12_whyNotGo_26 : decode cX12_whyNotGo 26 = .ok (.aload_n 0, 1) := o_42 (u1_10 hc_X12_whyNotGo_16 rfl) rfl
theorem dX12_whyNotGo_27 : decode cX12_whyNotGo 27 = .ok (.getfield 263, 3) := o_180 (u1_11 hc_X12_whyNotGo_16 rfl) (u2_d (u1_12 hc_X12_whyNotGo_16 rfl) (u1_13 hc_X12_whyNotGo_16 rfl) rfl) rfl
theorem dX12_whyNotGo_30 : decode cX12_whyNotGo 30 = .ok (.bipush (-9), 2) := o_16 (u1_14 hc_X12_whyNotGo_16 rfl) (s1_d (u1_15 hc_X12_whyNotGo_16 rfl) rfl) rfl
theorem hc_X12_whyNotGo_32 : ((bL cX12_whyNotGo).drop 32).take 18 = [160, 0, 5, 5, 172, 42, 180, 1, 10, 16, 247, 159, 0, 19, 42, 180, 0, 56] := by decide +kernel
theorem dX12_whyNotGo_32 : decode cX12_whyNotGo 32 = .ok (.if_icmp .ne 5, 3) := o_160 (u1_0 hc_X12_whyNotGo_32 rfl) (s2_d (u2_d (u1_1 hc_X12_whyNotGo_32 rfl) (u1_2 hc_X12_whyNotGo_32 rfl) rfl) rfl) rfl
theorem dX12_whyNotGo_35 : decode cX12_whyNotGo 35 = .ok (.iconst 2, 1) := o_5 (u1_3 hc_X12_whyNotGo_32 rfl) rfl
theorem dX12_whyNotGo_36 : decode cX12_whyNotGo 36 = .ok (.ireturn, 1) := o_172 (u1_4 hc_X12_whyNotGo_32 rfl) rfl
theorem dX12_whyNotGo_37 : decode cX12_whyNotGo 37 = .ok (.aload_n 0, 1) := o_42 (u1_5 hc_X12_whyNotGo_32 rfl) rfl
theorem dX12_whyNotGo_38 : decode cX12_whyNotGo 38 = .ok (.getfield 266, 3) := o_180 (u1_6 hc_X12_whyNotGo_32 rfl) (u2_d (u1_7 hc_X12_whyNotGo_32 rfl) (u1_8 hc_X12_whyNotGo_32 rfl) rfl) rfl
theorem dX12_whyNotGo_41 : decode cX12_whyNotGo 41 = .ok (.bipush (-9), 2) := o_16 (u1_9 hc_X12_whyNotGo_32 rfl) (s1_d (u1_10 hc_X12_whyNotGo_32 rfl) rfl) rfl
theorem dX12_whyNotGo_43 : decode cX12_whyNotGo 43 = .ok (.if_icmp .eq 19, 3) := o_159 (u1_11 hc_X12_whyNotGo_32 rfl) (s2_d (u2_d (u1_12 hc_X12_whyNotGo_32 rfl) (u1_13 hc_X12_whyNotGo_32 rfl) rfl) rfl) rfl
theorem dX12_whyNotGo_46 : decode cX12_whyNotGo 46 = .ok (.aload_n 0, 1) := o_42 (u1_14 hc_X12_whyNotGo_32 rfl) rfl
theorem dX12_whyNotGo_47 : decode cX12_whyNotGo 47 = .ok (.getfield 56, 3) := o_180 (u1_15 hc_X12_whyNotGo_32 rfl) (u2_d (u1_16 hc_X12_whyNotGo_32 rfl) (u1_17 hc_X12_whyNotGo_32 rfl) rfl) rfl
theorem hc_X12_whyNotGo_48 : ((bL cX12_whyNotGo).drop 48).take 18 = [0, 56, 42, 180, 1, 10, 51, 154, 0, 7, 6, 167, 0, 4, 3, 172] := by decide +kernel
theorem dX12_whyNotGo_50 : decode cX12_whyNotGo 50 = .ok (.aload_n 0, 1) := o_42 (u1_2 hc_X12_whyNotGo_48 rfl) rfl
theorem dX12_whyNotGo_51 : decode cX12_whyNotGo 51 = .ok (.getfield 266, 3) := o_180 (u1_3 hc_X12_whyNotGo_48 rfl) (u2_d (u1_4 hc_X12_whyNotGo_48 rfl) (u1_5 hc_X12_whyNotGo_48 rfl) rfl) rfl
theorem dX12_whyNotGo_54 : decode cX12_whyNotGo 54 = .ok (.baload, 1) := o_51 (u1_6 hc_X12_whyNotGo_48 rfl) rfl
theorem dX12_whyNotGo_55 : decode cX12_whyNotGo 55 = .ok (.ifCond .ne 7, 3) := o_154 (u1_7 hc_X12_whyNotGo_48 rfl) (s2_d (u2_d (u1_8 hc_X12_whyNotGo_48 rfl) (u1_9 hc_X12_whyNotGo_48 rfl) rfl) rfl) rfl
theorem dX12_whyNotGo_58 : decode cX12_whyNotGo 58 = .ok (.iconst 3, 1) := o_6 (u1_10 hc_X12_whyNotGo_48 rfl) rfl
theorem dX12_whyNotGo_59 : decode cX12_whyNotGo 59 = .ok (.goto 4, 3) := o_167 (u1_11 hc_X12_whyNotGo_48 rfl) (s2_d (u2_d (u1_12 hc_X12_whyNotGo_48 rfl) (u1_13 hc_X12_whyNotGo_48 rfl) rfl) rfl) rfl
theorem dX12_whyNotGo_62 : decode cX12_whyNotGo 62 = .ok (.iconst 0, 1) := o_3 (u1_14 hc_X12_whyNotGo_48 rfl) rfl
theorem dX12_whyNotGo_63 : decode cX12_whyNotGo 63 = .ok (.ireturn, 1) := o_172 (u1_15 hc_X12_whyNotGo_48 rfl) rfl
theorem hc_X12_whyNotTake_0 : ((bL cX12_whyNotTake).drop 0).take 18 = [42, 180, 0, 86, 27, 51, 154, 0, 5, 7, 172, 27, 42, 180, 0, 155, 159, 0] := by decide +kernel
theorem dX12_whyNotTake_0 : decode cX12_whyNotTake 0 = .ok (.aload_n 0, 1) := o_42 (u1_0 hc_X12_whyNotTake_0 rfl) rfl
theorem dX12_whyNotTake_1 : decode cX12_whyNotTake 1 = .ok (.getfield 86, 3) := o_180 (u1_1 hc_X12_whyNotTake_0 rfl) (u2_d (u1_2 hc_X12_whyNotTake_0 rfl) (u1_3 hc_X12_whyNotTake_0 rfl) rfl) rfl
theorem dX12_whyNotTake_4 : decode cX12_whyNotTake 4 = .ok (.iload_n 1, 1) := o_27 (u1_4 hc_X12_whyNotTake_0 rfl) rfl
theorem dX12_whyNotTake_5 : decode cX12_whyNotTake 5 = .ok (.baload, 1) := o_51 (u1_5 hc_X12_whyNotTake_0 rfl) rfl
theorem dX12_whyNotTake_6 : decode cX12_whyNotTake 6 = .ok (.ifCond .ne 5, 3) := o_154 (u1_6 hc_X12_whyNotTake_0 rfl) (s2_d (u2_d (u1_7 hc_X12_whyNotTake_0 rfl) (u1_8 hc_X12_whyNotTake_0 rfl) rfl) rfl) rfl
theorem dX12_whyNotTake_9 : decode cX12_whyNotTake 9 = .ok (.iconst 4, 1) := o_7 (u1_9 hc_X12_whyNotTake_0 rfl) rfl
theorem dX12_whyNotTake_10 : decode cX12_whyNotTake 10 = .ok (.ireturn, 1) := o_172 (u1_10 hc_X12_whyNotTake_0 rfl) rfl
theorem dX12_whyNotTake_11 : decode cX12_whyNotTake 11 = .ok (.iload_n 1, 1) := o_27 (u1_11 hc_X12_whyNotTake_0 rfl) rfl
theorem dX12_whyNotTake_12 : decode cX12_whyNotTake 12 = .ok (.aload_n 0, 1) := o_42 (u1_12 hc_X12_whyNotTake_0 rfl) rfl
theorem dX12_whyNotTake_13 : decode cX12_whyNotTake 13 = .ok (.getfield 155, 3) := o_180 (u1_13 hc_X12_whyNotTake_0 rfl) (u2_d (u1_14 hc_X12_whyNotTake_0 rfl) (u1_15 hc_X12_whyNotTake_0 rfl) rfl) rfl
theorem hc_X12_whyNotTake_16 : ((bL cX12_whyNotTake).drop 16).take 18 = [159, 0, 15, 42, 27, 42, 180, 0, 155, 182, 1, 96, 153, 0, 5, 8, 172, 42] := by decide +kernel
theorem dX12_whyNotTake_16 : decode cX12_whyNotTake 16 = .ok (.if_icmp .eq 15, 3) := o_159 (u1_0 hc_X12_whyNotTake_16 rfl) (s2_d (u2_d (u1_1 hc_X12_whyNotTake_16 rfl) (u1_2 hc_X12_whyNotTake_16 rfl) rfl) rfl) rfl
theorem dX12_whyNotTake_19 : decode cX12_whyNotTake 19 = .ok (.aload_n 0, 1) := o_42 (u1_3 hc_X12_whyNotTake_16 rfl) rfl
theorem dX12_whyNotTake_20 : decode cX12_whyNotTake 20 = .ok (.iload_n 1, 1) := o_27 (u1_4 hc_X12_whyNotTake_16 rfl) rfl
theorem dX12_whyNotTake_21 : decode cX12_whyNotTake 21 = .ok (.aload_n 0, 1) := o_42 (u1_5 hc_X12_whyNotTake_16 rfl) rfl
theorem dX12_whyNotTake_22 : decode cX12_whyNotTake 22 = .ok (.getfield 155, 3) := o_180 (u1_6 hc_X12_whyNotTake_16 rfl) (u2_d (u1_7 hc_X12_whyNotTake_16 rfl) (u1_8 hc_X12_whyNotTake_16 rfl) rfl) rfl
theorem dX12_whyNotTake_25 : decode cX12_whyNotTake 25 = .ok (.invokevirtual 352, 3) := o_182 (u1_9 hc_X12_whyNotTake_16 rfl) (u2_d (u1_10 hc_X12_whyNotTake_16 rfl) (u1_11 hc_X12_whyNotTake_16 rfl) rfl) rfl
theorem dX12_whyNotTake_28 : decode cX12_whyNotTake 28 = .ok (.ifCond .eq 5, 3) := o_153 (u1_12 hc_X12_whyNotTake_16 rfl) (s2_d (u2_d (u1_13 hc_X12_whyNotTake_16 rfl) (u1_14 hc_X12_whyNotTake_16 rfl) rfl) rfl) rfl
theorem dX12_whyNotTake_31 : decode cX12_whyNotTake 31 = .ok (.iconst 5, 1) := o_8 (u1_15 hc_X12_whyNotTake_16 rfl) rfl
theorem hc_X12_whyNotTake_32 : ((bL cX12_whyNotTake).drop 32).take 18 = [172, 42, 27, 182, 1, 99, 153, 0, 6, 16, 6, 172, 42, 27, 182, 0, 194, 153] := by decide +kernel
theorem dX12_whyNotTake_32 : decode cX12_whyNotTake 32 = .ok (.ireturn, 1) := o_172 (u1_0 hc_X12_whyNotTake_32 rfl) rfl
theorem dX12_whyNotTake_33 : decode cX12_whyNotTake 33 = .ok (.aload_n 0, 1) := o_42 (u1_1 hc_X12_whyNotTake_32 rfl) rfl
theorem dX12_whyNotTake_34 : decode cX12_whyNotTake 34 = .ok (.iload_n 1, 1) := o_27 (u1_2 hc_X12_whyNotTake_32 rfl) rfl
theorem dX12_whyNotTake_35 : decode cX12_whyNotTake 35 = .ok (.invokevirtual 355, 3) := o_182 (u1_3 hc_X12_whyNotTake_32 rfl) (u2_d (u1_4 hc_X12_whyNotTake_32 rfl) (u1_5 hc_X12_whyNotTake_32 rfl) rfl) rfl
theorem dX12_whyNotTake_38 : decode cX12_whyNotTake 38 = .ok (.ifCond .eq 6, 3) := o_153 (u1_6 hc_X12_whyNotTake_32 rfl) (s2_d (u2_d (u1_7 hc_X12_whyNotTake_32 rfl) (u1_8 hc_X12_whyNotTake_32 rfl) rfl) rfl) rfl
theorem dX12_whyNotTake_41 : decode cX12_whyNotTake 41 = .ok (.bipush 6, 2) := o_16 (u1_9 hc_X12_whyNotTake_32 rfl) (s1_d (u1_10 hc_X12_whyNotTake_32 rfl) rfl) rfl
theorem dX12_whyNotTake_43 : decode cX12_whyNotTake 43 = .ok (.ireturn, 1) := o_172 (u1_11 hc_X12_whyNotTake_32 rfl) rfl
theorem dX12_whyNotTake_44 : decode cX12_whyNotTake 44 = .ok (.aload_n 0, 1) := o_42 (u1_12 hc_X12_whyNotTake_32 rfl) rfl
theorem dX12_whyNotTake_45 : decode cX12_whyNotTake 45 = .ok (.iload_n 1, 1) := o_27 (u1_13 hc_X12_whyNotTake_32 rfl) rfl
theorem dX12_whyNotTake_46 : decode cX12_whyNotTake 46 = .ok (.invokevirtual 194, 3) := o_182 (u1_14 hc_X12_whyNotTake_32 rfl) (u2_d (u1_15 hc_X12_whyNotTake_32 rfl) (u1_16 hc_X12_whyNotTake_32 rfl) rfl) rfl
theorem hc_X12_whyNotTake_48 : ((bL cX12_whyNotTake).drop 48).take 18 = [194, 153, 0, 23, 42, 27, 6, 182, 1, 0, 4, 159, 0, 13, 42, 180, 0, 50] := by decide +kernel
theorem dX12_whyNotTake_49 : decode cX12_whyNotTake 49 = .ok (.ifCond .eq 23, 3) := o_153 (u1_1 hc_X12_whyNotTake_48 rfl) (s2_d (u2_d (u1_2 hc_X12_whyNotTake_48 rfl) (u1_3 hc_X12_whyNotTake_48 rfl) rfl) rfl) rfl
theorem dX12_whyNotTake_52 : decode cX12_whyNotTake 52 = .ok (.aload_n 0, 1) := o_42 (u1_4 hc_X12_whyNotTake_48 rfl) rfl
theorem dX12_whyNotTake_53 : decode cX12_whyNotTake 53 = .ok (.iload_n 1, 1) := o_27 (u1_5 hc_X12_whyNotTake_48 rfl) rfl
theorem dX12_whyNotTake_54 : decode cX12_whyNotTake 54 = .ok (.iconst 3, 1) := o_6 (u1_6 hc_X12_whyNotTake_48 rfl) rfl
theorem dX12_whyNotTake_55 : decode cX12_whyNotTake 55 = .ok (.invokevirtual 256, 3) := o_182 (u1_7 hc_X12_whyNotTake_48 rfl) (u2_d (u1_8 hc_X12_whyNotTake_48 rfl) (u1_9 hc_X12_whyNotTake_48 rfl) rfl) rfl
theorem dX12_whyNotTake_58 : decode cX12_whyNotTake 58 = .ok (.iconst 1, 1) := o_4 (u1_10 hc_X12_whyNotTake_48 rfl) rfl
theorem dX12_whyNotTake_59 : decode cX12_whyNotTake 59 = .ok (.if_icmp .eq 13, 3) := o_159 (u1_11 hc_X12_whyNotTake_48 rfl) (s2_d (u2_d (u1_12 hc_X12_whyNotTake_48 rfl) (u1_13 hc_X12_whyNotTake_48 rfl) rfl) rfl) rfl
theorem dX12_whyNotTake_62 : decode cX12_whyNotTake 62 = .ok (.aload_n 0, 1) := o_42 (u1_14 hc_X12_whyNotTake_48 rfl) rfl
theorem dX12_whyNotTake_63 : decode cX12_whyNotTake 63 = .ok (.getfield 50, 3) := o_180 (u1_15 hc_X12_whyNotTake_48 rfl) (u2_d (u1_16 hc_X12_whyNotTake_48 rfl) (u1_17 hc_X12_whyNotTake_48 rfl) rfl) rfl
theorem hc_X12_whyNotTake_64 : ((bL cX12_whyNotTake).drop 64).take 18 = [0, 50, 27, 46, 7, 160, 0, 6, 16, 7, 172, 42, 180, 0, 89, 27, 51, 154] := by decide +kernel
theorem dX12_whyNotTake_66 : decode cX12_whyNotTake 66 = .ok (.iload_n 1, 1) := o_27 (u1_2 hc_X12_whyNotTake_64 rfl) rfl
theorem dX12_whyNotTake_67 : decode cX12_whyNotTake 67 = .ok (.iaload, 1) := o_46 (u1_3 hc_X12_whyNotTake_64 rfl) rfl
theorem dX12_whyNotTake_68 : decode cX12_whyNotTake 68 = .ok (.iconst 4, 1) := o_7 (u1_4 hc_X12_whyNotTake_64 rfl) rfl
theorem dX12_whyNotTake_69 : decode cX12_whyNotTake 69 = .ok (.if_icmp .ne 6, 3) := o_160 (u1_5 hc_X12_whyNotTake_64 rfl) (s2_d (u2_d (u1_6 hc_X12_whyNotTake_64 rfl) (u1_7 hc_X12_whyNotTake_64 rfl) rfl) rfl) rfl
theorem dX12_whyNotTake_72 : decode cX12_whyNotTake 72 = .ok (.bipush 7, 2) := o_16 (u1_8 hc_X12_whyNotTake_64 rfl) (s1_d (u1_9 hc_X12_whyNotTake_64 rfl) rfl) rfl
theorem dX12_whyNotTake_74 : decode cX12_whyNotTake 74 = .ok (.ireturn, 1) := o_172 (u1_10 hc_X12_whyNotTake_64 rfl) rfl
theorem dX12_whyNotTake_75 : decode cX12_whyNotTake 75 = .ok (.aload_n 0, 1) := o_42 (u1_11 hc_X12_whyNotTake_64 rfl) rfl
theorem dX12_whyNotTake_76 : decode cX12_whyNotTake 76 = .ok (.getfield 89, 3) := o_180 (u1_12 hc_X12_whyNotTake_64 rfl) (u2_d (u1_13 hc_X12_whyNotTake_64 rfl) (u1_14 hc_X12_whyNotTake_64 rfl) rfl) rfl
theorem dX12_whyNotTake_79 : decode cX12_whyNotTake 79 = .ok (.iload_n 1, 1) := o_27 (u1_15 hc_X12_whyNotTake_64 rfl) rfl
theorem hc_X12_whyNotTake_80 : ((bL cX12_whyNotTake).drop 80).take 18 = [51, 154, 0, 6, 16, 8, 172, 27, 61, 42, 180, 0, 50, 28, 46, 16, 247, 159] := by decide +kernel
theorem dX12_whyNotTake_80 : decode cX12_whyNotTake 80 = .ok (.baload, 1) := o_51 (u1_0 hc_X12_whyNotTake_80 rfl) rfl
theorem dX12_whyNotTake_81 : decode cX12_whyNotTake 81 = .ok (.ifCond .ne 6, 3) := o_154 (u1_1 hc_X12_whyNotTake_80 rfl) (s2_d (u2_d (u1_2 hc_X12_whyNotTake_80 rfl) (u1_3 hc_X12_whyNotTake_80 rfl) rfl) rfl) rfl
theorem dX12_whyNotTake_84 : decode cX12_whyNotTake 84 = .ok (.bipush 8, 2) := o_16 (u1_4 hc_X12_whyNotTake_80 rfl) (s1_d (u1_5 hc_X12_whyNotTake_80 rfl) rfl) rfl
theorem dX12_whyNotTake_86 : decode cX12_whyNotTake 86 = .ok (.ireturn, 1) := o_172 (u1_6 hc_X12_whyNotTake_80 rfl) rfl
theorem dX12_whyNotTake_87 : decode cX12_whyNotTake 87 = .ok (.iload_n 1, 1) := o_27 (u1_7 hc_X12_whyNotTake_80 rfl) rfl
theorem dX12_whyNotTake_88 : decode cX12_whyNotTake 88 = .ok (.istore_n 2, 1) := o_61 (u1_8 hc_X12_whyNotTake_80 rfl) rfl
theorem dX12_whyNotTake_89 : decode cX12_whyNotTake 89 = .ok (.aload_n 0, 1) := o_42 (u1_9 hc_X12_whyNotTake_80 rfl) rfl
theorem dX12_whyNotTake_90 : decode cX12_whyNotTake 90 = .ok (.getfield 50, 3) := o_180 (u1_10 hc_X12_whyNotTake_80 rfl) (u2_d (u1_11 hc_X12_whyNotTake_80 rfl) (u1_12 hc_X12_whyNotTake_80 rfl) rfl) rfl
theorem dX12_whyNotTake_93 : decode cX12_whyNotTake 93 = .ok (.iload_n 2, 1) := o_28 (u1_13 hc_X12_whyNotTake_80 rfl) rfl
theorem dX12_whyNotTake_94 : decode cX12_whyNotTake 94 = .ok (.iaload, 1) := o_46 (u1_14 hc_X12_whyNotTake_80 rfl) rfl
theorem dX12_whyNotTake_95 : decode cX12_whyNotTake 95 = .ok (.bipush (-9), 2) := o_16 (u1_15 hc_X12_whyNotTake_80 rfl) (s1_d (u1_16 hc_X12_whyNotTake_80 rfl) rfl) rfl
theorem hc_X12_whyNotTake_96 : ((bL cX12_whyNotTake).drop 96).take 18 = [247, 159, 0, 43, 42, 42, 180, 0, 53, 28, 46, 8, 182, 0, 184, 153, 0, 19] := by decide +kernel
theorem dX12_whyNotTake_97 : decode cX12_whyNotTake 97 = .ok (.if_icmp .eq 43, 3) := o_159 (u1_1 hc_X12_whyNotTake_96 rfl) (s2_d (u2_d (u1_2 hc_X12_whyNotTake_96 rfl) (u1_3 hc_X12_whyNotTake_96 rfl) rfl) rfl) rfl
theorem dX12_whyNotTake_100 : decode cX12_whyNotTake 100 = .ok (.aload_n 0, 1) := o_42 (u1_4 hc_X12_whyNotTake_96 rfl) rfl
theorem dX12_whyNotTake_101 : decode cX12_whyNotTake 101 = .ok (.aload_n 0, 1) := o_42 (u1_5 hc_X12_whyNotTake_96 rfl) rfl
theorem dX12_whyNotTake_102 : decode cX12_whyNotTake 102 = .ok (.getfield 53, 3) := o_180 (u1_6 hc_X12_whyNotTake_96 rfl) (u2_d (u1_7 hc_X12_whyNotTake_96 rfl) (u1_8 hc_X12_whyNotTake_96 rfl) rfl) rfl
theorem dX12_whyNotTake_105 : decode cX12_whyNotTake 105 = .ok (.iload_n 2, 1) := o_28 (u1_9 hc_X12_whyNotTake_96 rfl) rfl
theorem dX12_whyNotTake_106 : decode cX12_whyNotTake 106 = .ok (.iaload, 1) := o_46 (u1_10 hc_X12_whyNotTake_96 rfl) rfl
theorem dX12_whyNotTake_107 : decode cX12_whyNotTake 107 = .ok (.iconst 5, 1) := o_8 (u1_11 hc_X12_whyNotTake_96 rfl) rfl
theorem dX12_whyNotTake_108 : decode cX12_whyNotTake 108 = .ok (.invokevirtual 184, 3) := o_182 (u1_12 hc_X12_whyNotTake_96 rfl) (u2_d (u1_13 hc_X12_whyNotTake_96 rfl) (u1_14 hc_X12_whyNotTake_96 rfl) rfl) rfl
theorem dX12_whyNotTake_111 : decode cX12_whyNotTake 111 = .ok (.ifCond .eq 19, 3) := o_153 (u1_15 hc_X12_whyNotTake_96 rfl) (s2_d (u2_d (u1_16 hc_X12_whyNotTake_96 rfl) (u1_17 hc_X12_whyNotTake_96 rfl) rfl) rfl) rfl
theorem hc_X12_whyNotTake_112 : ((bL cX12_whyNotTake).drop 112).take 18 = [0, 19, 42, 180, 0, 53, 28, 46, 42, 180, 0, 155, 159, 0, 6, 16, 9, 172] := by decide +kernel
theorem dX12_whyNotTake_114 : decode cX12_whyNotTake 114 = .ok (.aload_n 0, 1) := o_42 (u1_2 hc_X12_whyNotTake_112 rfl) rfl
theorem dX12_whyNotTake_115 : decode cX12_whyNotTake 115 = .ok (.getfield 53, 3) := o_180 (u1_3 hc_X12_whyNotTake_112 rfl) (u2_d (u1_4 hc_X12_whyNotTake_112 rfl) (u1_5 hc_X12_whyNotTake_112 rfl) rfl) rfl
theorem dX12_whyNotTake_118 : decode cX12_whyNotTake 118 = .ok (.iload_n 2, 1) := o_28 (u1_6 hc_X12_whyNotTake_112 rfl) rfl
theorem dX12_whyNotTake_119 : decode cX12_whyNotTake 119 = .ok (.iaload, 1) := o_46 (u1_7 hc_X12_whyNotTake_112 rfl) rfl
theorem dX12_whyNotTake_120 : decode cX12_whyNotTake 120 = .ok (.aload_n 0, 1) := o_42 (u1_8 hc_X12_whyNotTake_112 rfl) rfl
theorem dX12_whyNotTake_121 : decode cX12_whyNotTake 121 = .ok (.getfield 155, 3) := o_180 (u1_9 hc_X12_whyNotTake_112 rfl) (u2_d (u1_10 hc_X12_whyNotTake_112 rfl) (u1_11 hc_X12_whyNotTake_112 rfl) rfl) rfl
theorem dX12_whyNotTake_124 : decode cX12_whyNotTake 124 = .ok (.if_icmp .eq 6, 3) := o_159 (u1_12 hc_X12_whyNotTake_112 rfl) (s2_d (u2_d (u1_13 hc_X12_whyNotTake_112 rfl) (u1_14 hc_X12_whyNotTake_112 rfl) rfl) rfl) rfl
theorem dX12_whyNotTake_127 : decode cX12_whyNotTake 127 = .ok (.bipush 9, 2) := o_16 (u1_15 hc_X12_whyNotTake_112 rfl) (s1_d (u1_16 hc_X12_whyNotTake_112 rfl) rfl) rfl
theorem hc_X12_whyNotTake_128 : ((bL cX12_whyNotTake).drop 128).take 18 = [9, 172, 42, 180, 0, 53, 28, 46, 61, 167, 255, 208, 42, 27, 182, 1, 59, 61] := by decide +kernel
theorem dX12_whyNotTake_129 : decode cX12_whyNotTake 129 = .ok (.ireturn, 1) := o_172 (u1_1 hc_X12_whyNotTake_128 rfl) rfl
theorem dX12_whyNotTake_130 : decode cX12_whyNotTake 130 = .ok (.aload_n 0, 1) := o_42 (u1_2 hc_X12_whyNotTake_128 rfl) rfl
theorem dX12_whyNotTake_131 : decode cX12_whyNotTake 131 = .ok (.getfield 53, 3) := o_180 (u1_3 hc_X12_whyNotTake_128 rfl) (u2_d (u1_4 hc_X12_whyNotTake_128 rfl) (u1_5 hc_X12_whyNotTake_128 rfl) rfl) rfl
theorem dX12_whyNotTake_134 : decode cX12_whyNotTake 134 = .ok (.iload_n 2, 1) := o_28 (u1_6 hc_X12_whyNotTake_128 rfl) rfl
theorem dX12_whyNotTake_135 : decode cX12_whyNotTake 135 = .ok (.iaload, 1) := o_46 (u1_7 hc_X12_whyNotTake_128 rfl) rfl
theorem dX12_whyNotTake_136 : decode cX12_whyNotTake 136 = .ok (.istore_n 2, 1) := o_61 (u1_8 hc_X12_whyNotTake_128 rfl) rfl
theorem dX12_whyNotTake_137 : decode cX12_whyNotTake 137 = .ok (.goto (-48), 3) := o_167 (u1_9 hc_X12_whyNotTake_128 rfl) (s2_d (u2_d (u1_10 hc_X12_whyNotTake_128 rfl) (u1_11 hc_X12_whyNotTake_128 rfl) rfl) rfl) rfl
theorem dX12_whyNotTake_140 : decode cX12_whyNotTake 140 = .ok (.aload_n 0, 1) := o_42 (u1_12 hc_X12_whyNotTake_128 rfl) rfl
theorem dX12_whyNotTake_141 : decode cX12_whyNotTake 141 = .ok (.iload_n 1, 1) := o_27 (u1_13 hc_X12_whyNotTake_128 rfl) rfl
theorem dX12_whyNotTake_142 : decode cX12_whyNotTake 142 = .ok (.invokevirtual 315, 3) := o_182 (u1_14 hc_X12_whyNotTake_128 rfl) (u2_d (u1_15 hc_X12_whyNotTake_128 rfl) (u1_16 hc_X12_whyNotTake_128 rfl) rfl) rfl
theorem hc_X12_whyNotTake_144 : ((bL cX12_whyNotTake).drop 144).take 18 = [59, 61, 3, 62, 29, 42, 180, 0, 177, 162, 0, 29, 28, 42, 29, 182, 1, 99] := by decide +kernel
theorem dX12_whyNotTake_145 : decode cX12_whyNotTake 145 = .ok (.istore_n 2, 1) := o_61 (u1_1 hc_X12_whyNotTake_144 rfl) rfl
theorem dX12_whyNotTake_146 : decode cX12_whyNotTake 146 = .ok (.iconst 0, 1) := o_3 (u1_2 hc_X12_whyNotTake_144 rfl) rfl
theorem dX12_whyNotTake_147 : decode cX12_whyNotTake 147 = .ok (.istore_n 3, 1) := o_62 (u1_3 hc_X12_whyNotTake_144 rfl) rfl
theorem dX12_whyNotTake_148 : decode cX12_whyNotTake 148 = .ok (.iload_n 3, 1) := o_29 (u1_4 hc_X12_whyNotTake_144 rfl) rfl
theorem dX12_whyNotTake_149 : decode cX12_whyNotTake 149 = .ok (.aload_n 0, 1) := o_42 (u1_5 hc_X12_whyNotTake_144 rfl) rfl
theorem dX12_whyNotTake_150 : decode cX12_whyNotTake 150 = .ok (.getfield 177, 3) := o_180 (u1_6 hc_X12_whyNotTake_144 rfl) (u2_d (u1_7 hc_X12_whyNotTake_144 rfl) (u1_8 hc_X12_whyNotTake_144 rfl) rfl) rfl
theorem dX12_whyNotTake_153 : decode cX12_whyNotTake 153 = .ok (.if_icmp .ge 29, 3) := o_162 (u1_9 hc_X12_whyNotTake_144 rfl) (s2_d (u2_d (u1_10 hc_X12_whyNotTake_144 rfl) (u1_11 hc_X12_whyNotTake_144 rfl) rfl) rfl) rfl
theorem dX12_whyNotTake_156 : decode cX12_whyNotTake 156 = .ok (.iload_n 2, 1) := o_28 (u1_12 hc_X12_whyNotTake_144 rfl) rfl
theorem dX12_whyNotTake_157 : decode cX12_whyNotTake 157 = .ok (.aload_n 0, 1) := o_42 (u1_13 hc_X12_whyNotTake_144 rfl) rfl
theorem dX12_whyNotTake_158 : decode cX12_whyNotTake 158 = .ok (.iload_n 3, 1) := o_29 (u1_14 hc_X12_whyNotTake_144 rfl) rfl
theorem dX12_whyNotTake_159 : decode cX12_whyNotTake 159 = .ok (.invokevirtual 355, 3) := o_182 (u1_15 hc_X12_whyNotTake_144 rfl) (u2_d (u1_16 hc_X12_whyNotTake_144 rfl) (u1_17 hc_X12_whyNotTake_144 rfl) rfl) rfl
theorem hc_X12_whyNotTake_160 : ((bL cX12_whyNotTake).drop 160).take 18 = [1, 99, 153, 0, 11, 42, 29, 182, 1, 59, 167, 0, 4, 3, 96, 61, 132, 3] := by decide +kernel
theorem dX12_whyNotTake_162 : decode cX12_whyNotTake 162 = .ok (.ifCond .eq 11, 3) := o_153 (u1_2 hc_X12_whyNotTake_160 rfl) (s2_d (u2_d (u1_3 hc_X12_whyNotTake_160 rfl) (u1_4 hc_X12_whyNotTake_160 rfl) rfl) rfl) rfl
theorem dX12_whyNotTake_165 : decode cX12_whyNotTake 165 = .ok (.aload_n 0, 1) := o_42 (u1_5 hc_X12_whyNotTake_160 rfl) rfl
theorem dX12_whyNotTake_166 : decode cX12_whyNotTake 166 = .ok (.iload_n 3, 1) := o_29 (u1_6 hc_X12_whyNotTake_160 rfl) rfl
theorem dX12_whyNotTake_167 : decode cX12_whyNotTake 167 = .ok (.invokevirtual 315, 3) := o_182 (u1_7 hc_X12_whyNotTake_160 rfl) (u2_d (u1_8 hc_X12_whyNotTake_160 rfl) (u1_9 hc_X12_whyNotTake_160 rfl) rfl) rfl
theorem dX12_whyNotTake_170 : decode cX12_whyNotTake 170 = .ok (.goto 4, 3) := o_167 (u1_10 hc_X12_whyNotTake_160 rfl) (s2_d (u2_d (u1_11 hc_X12_whyNotTake_160 rfl) (u1_12 hc_X12_whyNotTake_160 rfl) rfl) rfl) rfl
theorem dX12_whyNotTake_173 : decode cX12_whyNotTake 173 = .ok (.iconst 0, 1) := o_3 (u1_13 hc_X12_whyNotTake_160 rfl) rfl
theorem dX12_whyNotTake_174 : decode cX12_whyNotTake 174 = .ok (.iadd, 1) := o_96 (u1_14 hc_X12_whyNotTake_160 rfl) rfl
theorem dX12_whyNotTake_175 : decode cX12_whyNotTake 175 = .ok (.istore_n 2, 1) := o_61 (u1_15 hc_X12_whyNotTake_160 rfl) rfl
theorem hc_X12_whyNotTake_176 : ((bL cX12_whyNotTake).drop 176).take 18 = [132, 3, 1, 167, 255, 225, 28, 16, 100, 164, 0, 8, 16, 10, 167, 0, 4, 3] := by decide +kernel
theorem dX12_whyNotTake_176 : decode cX12_whyNotTake 176 = .ok (.iinc 3 1, 3) := o_132 (u1_0 hc_X12_whyNotTake_176 rfl) (u1_1 hc_X12_whyNotTake_176 rfl) (s1_d (u1_2 hc_X12_whyNotTake_176 rfl) rfl) rfl
theorem dX12_whyNotTake_179 : decode cX12_whyNotTake 179 = .ok (.goto (-31), 3) := o_167 (u1_3 hc_X12_whyNotTake_176 rfl) (s2_d (u2_d (u1_4 hc_X12_whyNotTake_176 rfl) (u1_5 hc_X12_whyNotTake_176 rfl) rfl) rfl) rfl
theorem dX12_whyNotTake_182 : decode cX12_whyNotTake 182 = .ok (.iload_n 2, 1) := o_28 (u1_6 hc_X12_whyNotTake_176 rfl) rfl
theorem dX12_whyNotTake_183 : decode cX12_whyNotTake 183 = .ok (.bipush 100, 2) := o_16 (u1_7 hc_X12_whyNotTake_176 rfl) (s1_d (u1_8 hc_X12_whyNotTake_176 rfl) rfl) rfl
theorem dX12_whyNotTake_185 : decode cX12_whyNotTake 185 = .ok (.if_icmp .le 8, 3) := o_164 (u1_9 hc_X12_whyNotTake_176 rfl) (s2_d (u2_d (u1_10 hc_X12_whyNotTake_176 rfl) (u1_11 hc_X12_whyNotTake_176 rfl) rfl) rfl) rfl
theorem dX12_whyNotTake_188 : decode cX12_whyNotTake 188 = .ok (.bipush 10, 2) := o_16 (u1_12 hc_X12_whyNotTake_176 rfl) (s1_d (u1_13 hc_X12_whyNotTake_176 rfl) rfl) rfl
theorem dX12_whyNotTake_190 : decode cX12_whyNotTake 190 = .ok (.goto 4, 3) := o_167 (u1_14 hc_X12_whyNotTake_176 rfl) (s2_d (u2_d (u1_15 hc_X12_whyNotTake_176 rfl) (u1_16 hc_X12_whyNotTake_176 rfl) rfl) rfl) rfl
theorem hc_X12_whyNotTake_192 : ((bL cX12_whyNotTake).drop 192).take 18 = [4, 3, 172] := by decide +kernel
theorem dX12_whyNotTake_193 : decode cX12_whyNotTake 193 = .ok (.iconst 0, 1) := o_3 (u1_1 hc_X12_whyNotTake_192 rfl) rfl
theorem dX12_whyNotTake_194 : decode cX12_whyNotTake 194 = .ok (.ireturn, 1) := o_172 (u1_2 hc_X12_whyNotTake_192 rfl) rfl
theorem hc_X12_whyNotPut_0 : ((bL cX12_whyNotPut).drop 0).take 18 = [42, 27, 182, 1, 99, 154, 0, 6, 16, 11, 172, 42, 180, 0, 86, 28, 51, 154] := by decide +kernel
theorem dX12_whyNotPut_0 : decode cX12_whyNotPut 0 = .ok (.aload_n 0, 1) := o_42 (u1_0 hc_X12_whyNotPut_0 rfl) rfl
theorem dX12_whyNotPut_1 : decode cX12_whyNotPut 1 = .ok (.iload_n 1, 1) := o_27 (u1_1 hc_X12_whyNotPut_0 rfl) rfl
theorem dX12_whyNotPut_2 : decode cX12_whyNotPut 2 = .ok (.invokevirtual 355, 3) := o_182 (u1_2 hc_X12_whyNotPut_0 rfl) (u2_d (u1_3 hc_X12_whyNotPut_0 rfl) (u1_4 hc_X12_whyNotPut_0 rfl) rfl) rfl
theorem dX12_whyNotPut_5 : decode cX12_whyNotPut 5 = .ok (.ifCond .ne 6, 3) := o_154 (u1_5 hc_X12_whyNotPut_0 rfl) (s2_d (u2_d (u1_6 hc_X12_whyNotPut_0 rfl) (u1_7 hc_X12_whyNotPut_0 rfl) rfl) rfl) rfl
theorem dX12_whyNotPut_8 : decode cX12_whyNotPut 8 = .ok (.bipush 11, 2) := o_16 (u1_8 hc_X12_whyNotPut_0 rfl) (s1_d (u1_9 hc_X12_whyNotPut_0 rfl) rfl) rfl
theorem dX12_whyNotPut_10 : decode cX12_whyNotPut 10 = .ok (.ireturn, 1) := o_172 (u1_10 hc_X12_whyNotPut_0 rfl) rfl
theorem dX12_whyNotPut_11 : decode cX12_whyNotPut 11 = .ok (.aload_n 0, 1) := o_42 (u1_11 hc_X12_whyNotPut_0 rfl) rfl
theorem dX12_whyNotPut_12 : decode cX12_whyNotPut 12 = .ok (.getfield 86, 3) := o_180 (u1_12 hc_X12_whyNotPut_0 rfl) (u2_d (u1_13 hc_X12_whyNotPut_0 rfl) (u1_14 hc_X12_whyNotPut_0 rfl) rfl) rfl
theorem dX12_whyNotPut_15 : decode cX12_whyNotPut 15 = .ok (.iload_n 2, 1) := o_28 (u1_15 hc_X12_whyNotPut_0 rfl) rfl
theorem hc_X12_whyNotPut_16 : ((bL cX12_whyNotPut).drop 16).take 18 = [51, 154, 0, 5, 7, 172, 29, 153, 0, 15, 42, 180, 0, 98, 28, 51, 154, 0] := by decide +kernel
theorem dX12_whyNotPut_16 : decode cX12_whyNotPut 16 = .ok (.baload, 1) := o_51 (u1_0 hc_X12_whyNotPut_16 rfl) rfl
theorem dX12_whyNotPut_17 : decode cX12_whyNotPut 17 = .ok (.ifCond .ne 5, 3) := o_154 (u1_1 hc_X12_whyNotPut_16 rfl) (s2_d (u2_d (u1_2 hc_X12_whyNotPut_16 rfl) (u1_3 hc_X12_whyNotPut_16 rfl) rfl) rfl) rfl
theorem dX12_whyNotPut_20 : decode cX12_whyNotPut 20 = .ok (.iconst 4, 1) := o_7 (u1_4 hc_X12_whyNotPut_16 rfl) rfl
theorem dX12_whyNotPut_21 : decode cX12_whyNotPut 21 = .ok (.ireturn, 1) := o_172 (u1_5 hc_X12_whyNotPut_16 rfl) rfl
theorem dX12_whyNotPut_22 : decode cX12_whyNotPut 22 = .ok (.iload_n 3, 1) := o_29 (u1_6 hc_X12_whyNotPut_16 rfl) rfl
theorem dX12_whyNotPut_23 : decode cX12_whyNotPut 23 = .ok (.ifCond .eq 15, 3) := o_153 (u1_7 hc_X12_whyNotPut_16 rfl) (s2_d (u2_d (u1_8 hc_X12_whyNotPut_16 rfl) (u1_9 hc_X12_whyNotPut_16 rfl) rfl) rfl) rfl
theorem dX12_whyNotPut_26 : decode cX12_whyNotPut 26 = .ok (.aload_n 0, 1) := o_42 (u1_10 hc_X12_whyNotPut_16 rfl) rfl
theorem dX12_whyNotPut_27 : decode cX12_whyNotPut 27 = .ok (.getfield 98, 3) := o_180 (u1_11 hc_X12_whyNotPut_16 rfl) (u2_d (u1_12 hc_X12_whyNotPut_16 rfl) (u1_13 hc_X12_whyNotPut_16 rfl) rfl) rfl
theorem dX12_whyNotPut_30 : decode cX12_whyNotPut 30 = .ok (.iload_n 2, 1) := o_28 (u1_14 hc_X12_whyNotPut_16 rfl) rfl
theorem dX12_whyNotPut_31 : decode cX12_whyNotPut 31 = .ok (.baload, 1) := o_51 (u1_15 hc_X12_whyNotPut_16 rfl) rfl
theorem hc_X12_whyNotPut_32 : ((bL cX12_whyNotPut).drop 32).take 18 = [154, 0, 18, 167, 0, 12, 42, 28, 7, 182, 0, 184, 154, 0, 6, 16, 12, 172] := by decide +kernel
theorem dX12_whyNotPut_32 : decode cX12_whyNotPut 32 = .ok (.ifCond .ne 18, 3) := o_154 (u1_0 hc_X12_whyNotPut_32 rfl) (s2_d (u2_d (u1_1 hc_X12_whyNotPut_32 rfl) (u1_2 hc_X12_whyNotPut_32 rfl) rfl) rfl) rfl
theorem dX12_whyNotPut_35 : decode cX12_whyNotPut 35 = .ok (.goto 12, 3) := o_167 (u1_3 hc_X12_whyNotPut_32 rfl) (s2_d (u2_d (u1_4 hc_X12_whyNotPut_32 rfl) (u1_5 hc_X12_whyNotPut_32 rfl) rfl) rfl) rfl
theorem dX12_whyNotPut_38 : decode cX12_whyNotPut 38 = .ok (.aload_n 0, 1) := o_42 (u1_6 hc_X12_whyNotPut_32 rfl) rfl
theorem dX12_whyNotPut_39 : decode cX12_whyNotPut 39 = .ok (.iload_n 2, 1) := o_28 (u1_7 hc_X12_whyNotPut_32 rfl) rfl
theorem dX12_whyNotPut_40 : decode cX12_whyNotPut 40 = .ok (.iconst 4, 1) := o_7 (u1_8 hc_X12_whyNotPut_32 rfl) rfl
theorem dX12_whyNotPut_41 : decode cX12_whyNotPut 41 = .ok (.invokevirtual 184, 3) := o_182 (u1_9 hc_X12_whyNotPut_32 rfl) (u2_d (u1_10 hc_X12_whyNotPut_32 rfl) (u1_11 hc_X12_whyNotPut_32 rfl) rfl) rfl
theorem dX12_whyNotPut_44 : decode cX12_whyNotPut 44 = .ok (.ifCond .ne 6, 3) := o_154 (u1_12 hc_X12_whyNotPut_32 rfl) (s2_d (u2_d (u1_13 hc_X12_whyNotPut_32 rfl) (u1_14 hc_X12_whyNotPut_32 rfl) rfl) rfl) rfl
theorem dX12_whyNotPut_47 : decode cX12_whyNotPut 47 = .ok (.bipush 12, 2) := o_16 (u1_15 hc_X12_whyNotPut_32 rfl) (s1_d (u1_16 hc_X12_whyNotPut_32 rfl) rfl) rfl
theorem hc_X12_whyNotPut_48 : ((bL cX12_whyNotPut).drop 48).take 18 = [12, 172, 27, 28, 159, 0, 12, 42, 27, 28, 182, 1, 96, 153, 0, 6, 16, 13] := by decide +kernel
theorem dX12_whyNotPut_49 : decode cX12_whyNotPut 49 = .ok (.ireturn, 1) := o_172 (u1_1 hc_X12_whyNotPut_48 rfl) rfl
theorem dX12_whyNotPut_50 : decode cX12_whyNotPut 50 = .ok (.iload_n 1, 1) := o_27 (u1_2 hc_X12_whyNotPut_48 rfl) rfl
theorem dX12_whyNotPut_51 : decode cX12_whyNotPut 51 = .ok (.iload_n 2, 1) := o_28 (u1_3 hc_X12_whyNotPut_48 rfl) rfl
theorem dX12_whyNotPut_52 : decode cX12_whyNotPut 52 = .ok (.if_icmp .eq 12, 3) := o_159 (u1_4 hc_X12_whyNotPut_48 rfl) (s2_d (u2_d (u1_5 hc_X12_whyNotPut_48 rfl) (u1_6 hc_X12_whyNotPut_48 rfl) rfl) rfl) rfl
theorem dX12_whyNotPut_55 : decode cX12_whyNotPut 55 = .ok (.aload_n 0, 1) := o_42 (u1_7 hc_X12_whyNotPut_48 rfl) rfl
theorem dX12_whyNotPut_56 : decode cX12_whyNotPut 56 = .ok (.iload_n 1, 1) := o_27 (u1_8 hc_X12_whyNotPut_48 rfl) rfl
theorem dX12_whyNotPut_57 : decode cX12_whyNotPut 57 = .ok (.iload_n 2, 1) := o_28 (u1_9 hc_X12_whyNotPut_48 rfl) rfl
theorem dX12_whyNotPut_58 : decode cX12_whyNotPut 58 = .ok (.invokevirtual 352, 3) := o_182 (u1_10 hc_X12_whyNotPut_48 rfl) (u2_d (u1_11 hc_X12_whyNotPut_48 rfl) (u1_12 hc_X12_whyNotPut_48 rfl) rfl) rfl
theorem dX12_whyNotPut_61 : decode cX12_whyNotPut 61 = .ok (.ifCond .eq 6, 3) := o_153 (u1_13 hc_X12_whyNotPut_48 rfl) (s2_d (u2_d (u1_14 hc_X12_whyNotPut_48 rfl) (u1_15 hc_X12_whyNotPut_48 rfl) rfl) rfl) rfl
theorem hc_X12_whyNotPut_64 : ((bL cX12_whyNotPut).drop 64).take 18 = [16, 13, 172, 29, 153, 0, 14, 42, 180, 0, 56, 28, 51, 154, 0, 5, 6, 172] := by decide +kernel
theorem dX12_whyNotPut_64 : decode cX12_whyNotPut 64 = .ok (.bipush 13, 2) := o_16 (u1_0 hc_X12_whyNotPut_64 rfl) (s1_d (u1_1 hc_X12_whyNotPut_64 rfl) rfl) rfl
theorem dX12_whyNotPut_66 : decode cX12_whyNotPut 66 = .ok (.ireturn, 1) := o_172 (u1_2 hc_X12_whyNotPut_64 rfl) rfl
theorem dX12_whyNotPut_67 : decode cX12_whyNotPut 67 = .ok (.iload_n 3, 1) := o_29 (u1_3 hc_X12_whyNotPut_64 rfl) rfl
theorem dX12_whyNotPut_68 : decode cX12_whyNotPut 68 = .ok (.ifCond .eq 14, 3) := o_153 (u1_4 hc_X12_whyNotPut_64 rfl) (s2_d (u2_d (u1_5 hc_X12_whyNotPut_64 rfl) (u1_6 hc_X12_whyNotPut_64 rfl) rfl) rfl) rfl
theorem dX12_whyNotPut_71 : decode cX12_whyNotPut 71 = .ok (.aload_n 0, 1) := o_42 (u1_7 hc_X12_whyNotPut_64 rfl) rfl
theorem dX12_whyNotPut_72 : decode cX12_whyNotPut 72 = .ok (.getfield 56, 3) := o_180 (u1_8 hc_X12_whyNotPut_64 rfl) (u2_d (u1_9 hc_X12_whyNotPut_64 rfl) (u1_10 hc_X12_whyNotPut_64 rfl) rfl) rfl
theorem dX12_whyNotPut_75 : decode cX12_whyNotPut 75 = .ok (.iload_n 2, 1) := o_28 (u1_11 hc_X12_whyNotPut_64 rfl) rfl
theorem dX12_whyNotPut_76 : decode cX12_whyNotPut 76 = .ok (.baload, 1) := o_51 (u1_12 hc_X12_whyNotPut_64 rfl) rfl
theorem dX12_whyNotPut_77 : decode cX12_whyNotPut 77 = .ok (.ifCond .ne 5, 3) := o_154 (u1_13 hc_X12_whyNotPut_64 rfl) (s2_d (u2_d (u1_14 hc_X12_whyNotPut_64 rfl) (u1_15 hc_X12_whyNotPut_64 rfl) rfl) rfl) rfl
theorem hc_X12_whyNotPut_80 : ((bL cX12_whyNotPut).drop 80).take 18 = [6, 172, 42, 180, 0, 89, 28, 51, 154, 0, 6, 16, 8, 172, 42, 29, 153, 0] := by decide +kernel
theorem dX12_whyNotPut_80 : decode cX12_whyNotPut 80 = .ok (.iconst 3, 1) := o_6 (u1_0 hc_X12_whyNotPut_80 rfl) rfl
theorem dX12_whyNotPut_81 : decode cX12_whyNotPut 81 = .ok (.ireturn, 1) := o_172 (u1_1 hc_X12_whyNotPut_80 rfl) rfl
theorem dX12_whyNotPut_82 : decode cX12_whyNotPut 82 = .ok (.aload_n 0, 1) := o_42 (u1_2 hc_X12_whyNotPut_80 rfl) rfl
theorem dX12_whyNotPut_83 : decode cX12_whyNotPut 83 = .ok (.getfield 89, 3) := o_180 (u1_3 hc_X12_whyNotPut_80 rfl) (u2_d (u1_4 hc_X12_whyNotPut_80 rfl) (u1_5 hc_X12_whyNotPut_80 rfl) rfl) rfl
theorem dX12_whyNotPut_86 : decode cX12_whyNotPut 86 = .ok (.iload_n 2, 1) := o_28 (u1_6 hc_X12_whyNotPut_80 rfl) rfl
theorem dX12_whyNotPut_87 : decode cX12_whyNotPut 87 = .ok (.baload, 1) := o_51 (u1_7 hc_X12_whyNotPut_80 rfl) rfl
theorem dX12_whyNotPut_88 : decode cX12_whyNotPut 88 = .ok (.ifCond .ne 6, 3) := o_154 (u1_8 hc_X12_whyNotPut_80 rfl) (s2_d (u2_d (u1_9 hc_X12_whyNotPut_80 rfl) (u1_10 hc_X12_whyNotPut_80 rfl) rfl) rfl) rfl
theorem dX12_whyNotPut_91 : decode cX12_whyNotPut 91 = .ok (.bipush 8, 2) := o_16 (u1_11 hc_X12_whyNotPut_80 rfl) (s1_d (u1_12 hc_X12_whyNotPut_80 rfl) rfl) rfl
theorem dX12_whyNotPut_93 : decode cX12_whyNotPut 93 = .ok (.ireturn, 1) := o_172 (u1_13 hc_X12_whyNotPut_80 rfl) rfl
theorem dX12_whyNotPut_94 : decode cX12_whyNotPut 94 = .ok (.aload_n 0, 1) := o_42 (u1_14 hc_X12_whyNotPut_80 rfl) rfl
theorem dX12_whyNotPut_95 : decode cX12_whyNotPut 95 = .ok (.iload_n 3, 1) := o_29 (u1_15 hc_X12_whyNotPut_80 rfl) rfl
theorem hc_X12_whyNotPut_96 : ((bL cX12_whyNotPut).drop 96).take 18 = [153, 0, 7, 3, 167, 0, 4, 4, 28, 182, 1, 102, 16, 8, 161, 0, 8, 16] := by decide +kernel
theorem dX12_whyNotPut_96 : decode cX12_whyNotPut 96 = .ok (.ifCond .eq 7, 3) := o_153 (u1_0 hc_X12_whyNotPut_96 rfl) (s2_d (u2_d (u1_1 hc_X12_whyNotPut_96 rfl) (u1_2 hc_X12_whyNotPut_96 rfl) rfl) rfl) rfl
theorem dX12_whyNotPut_99 : decode cX12_whyNotPut 99 = .ok (.iconst 0, 1) := o_3 (u1_3 hc_X12_whyNotPut_96 rfl) rfl
theorem dX12_whyNotPut_100 : decode cX12_whyNotPut 100 = .ok (.goto 4, 3) := o_167 (u1_4 hc_X12_whyNotPut_96 rfl) (s2_d (u2_d (u1_5 hc_X12_whyNotPut_96 rfl) (u1_6 hc_X12_whyNotPut_96 rfl) rfl) rfl) rfl
theorem dX12_whyNotPut_103 : decode cX12_whyNotPut 103 = .ok (.iconst 1, 1) := o_4 (u1_7 hc_X12_whyNotPut_96 rfl) rfl
theorem dX12_whyNotPut_104 : decode cX12_whyNotPut 104 = .ok (.iload_n 2, 1) := o_28 (u1_8 hc_X12_whyNotPut_96 rfl) rfl
theorem dX12_whyNotPut_105 : decode cX12_whyNotPut 105 = .ok (.invokevirtual 358, 3) := o_182 (u1_9 hc_X12_whyNotPut_96 rfl) (u2_d (u1_10 hc_X12_whyNotPut_96 rfl) (u1_11 hc_X12_whyNotPut_96 rfl) rfl) rfl
theorem dX12_whyNotPut_108 : decode cX12_whyNotPut 108 = .ok (.bipush 8, 2) := o_16 (u1_12 hc_X12_whyNotPut_96 rfl) (s1_d (u1_13 hc_X12_whyNotPut_96 rfl) rfl) rfl
theorem dX12_whyNotPut_110 : decode cX12_whyNotPut 110 = .ok (.if_icmp .lt 8, 3) := o_161 (u1_14 hc_X12_whyNotPut_96 rfl) (s2_d (u2_d (u1_15 hc_X12_whyNotPut_96 rfl) (u1_16 hc_X12_whyNotPut_96 rfl) rfl) rfl) rfl
theorem hc_X12_whyNotPut_112 : ((bL cX12_whyNotPut).drop 112).take 18 = [8, 16, 14, 167, 0, 4, 3, 172] := by decide +kernel
theorem dX12_whyNotPut_113 : decode cX12_whyNotPut 113 = .ok (.bipush 14, 2) := o_16 (u1_1 hc_X12_whyNotPut_112 rfl) (s1_d (u1_2 hc_X12_whyNotPut_112 rfl) rfl) rfl
theorem dX12_whyNotPut_115 : decode cX12_whyNotPut 115 = .ok (.goto 4, 3) := o_167 (u1_3 hc_X12_whyNotPut_112 rfl) (s2_d (u2_d (u1_4 hc_X12_whyNotPut_112 rfl) (u1_5 hc_X12_whyNotPut_112 rfl) rfl) rfl) rfl
theorem dX12_whyNotPut_118 : decode cX12_whyNotPut 118 = .ok (.iconst 0, 1) := o_3 (u1_6 hc_X12_whyNotPut_112 rfl) rfl
theorem dX12_whyNotPut_119 : decode cX12_whyNotPut 119 = .ok (.ireturn, 1) := o_172 (u1_7 hc_X12_whyNotPut_112 rfl) rfl
theorem hc_X12_whyNotTurn_0 : ((bL cX12_whyNotTurn).drop 0).take 18 = [42, 180, 0, 86, 28, 51, 154, 0, 5, 7, 172, 42, 28, 182, 0, 191, 154, 0] := by decide +kernel
theorem dX12_whyNotTurn_0 : decode cX12_whyNotTurn 0 = .ok (.aload_n 0, 1) := o_42 (u1_0 hc_X12_whyNotTurn_0 rfl) rfl
theorem dX12_whyNotTurn_1 : decode cX12_whyNotTurn 1 = .ok (.getfield 86, 3) := o_180 (u1_1 hc_X12_whyNotTurn_0 rfl) (u2_d (u1_2 hc_X12_whyNotTurn_0 rfl) (u1_3 hc_X12_whyNotTurn_0 rfl) rfl) rfl
theorem dX12_whyNotTurn_4 : decode cX12_whyNotTurn 4 = .ok (.iload_n 2, 1) := o_28 (u1_4 hc_X12_whyNotTurn_0 rfl) rfl
theorem dX12_whyNotTurn_5 : decode cX12_whyNotTurn 5 = .ok (.baload, 1) := o_51 (u1_5 hc_X12_whyNotTurn_0 rfl) rfl
theorem dX12_whyNotTurn_6 : decode cX12_whyNotTurn 6 = .ok (.ifCond .ne 5, 3) := o_154 (u1_6 hc_X12_whyNotTurn_0 rfl) (s2_d (u2_d (u1_7 hc_X12_whyNotTurn_0 rfl) (u1_8 hc_X12_whyNotTurn_0 rfl) rfl) rfl) rfl
theorem dX12_whyNotTurn_9 : decode cX12_whyNotTurn 9 = .ok (.iconst 4, 1) := o_7 (u1_9 hc_X12_whyNotTurn_0 rfl) rfl
theorem dX12_whyNotTurn_10 : decode cX12_whyNotTurn 10 = .ok (.ireturn, 1) := o_172 (u1_10 hc_X12_whyNotTurn_0 rfl) rfl
theorem dX12_whyNotTurn_11 : decode cX12_whyNotTurn 11 = .ok (.aload_n 0, 1) := o_42 (u1_11 hc_X12_whyNotTurn_0 rfl) rfl
theorem dX12_whyNotTurn_12 : decode cX12_whyNotTurn 12 = .ok (.iload_n 2, 1) := o_28 (u1_12 hc_X12_whyNotTurn_0 rfl) rfl
theorem dX12_whyNotTurn_13 : decode cX12_whyNotTurn 13 = .ok (.invokevirtual 191, 3) := o_182 (u1_13 hc_X12_whyNotTurn_0 rfl) (u2_d (u1_14 hc_X12_whyNotTurn_0 rfl) (u1_15 hc_X12_whyNotTurn_0 rfl) rfl) rfl
theorem hc_X12_whyNotTurn_16 : ((bL cX12_whyNotTurn).drop 16).take 18 = [154, 0, 6, 16, 12, 172, 27, 8, 160, 0, 15, 42, 180, 0, 56, 28, 51, 153] := by decide +kernel
theorem dX12_whyNotTurn_16 : decode cX12_whyNotTurn 16 = .ok (.ifCond .ne 6, 3) := o_154 (u1_0 hc_X12_whyNotTurn_16 rfl) (s2_d (u2_d (u1_1 hc_X12_whyNotTurn_16 rfl) (u1_2 hc_X12_whyNotTurn_16 rfl) rfl) rfl) rfl
theorem dX12_whyNotTurn_19 : decode cX12_whyNotTurn 19 = .ok (.bipush 12, 2) := o_16 (u1_3 hc_X12_whyNotTurn_16 rfl) (s1_d (u1_4 hc_X12_whyNotTurn_16 rfl) rfl) rfl
theorem dX12_whyNotTurn_21 : decode cX12_whyNotTurn 21 = .ok (.ireturn, 1) := o_172 (u1_5 hc_X12_whyNotTurn_16 rfl) rfl
theorem dX12_whyNotTurn_22 : decode cX12_whyNotTurn 22 = .ok (.iload_n 1, 1) := o_27 (u1_6 hc_X12_whyNotTurn_16 rfl) rfl
theorem dX12_whyNotTurn_23 : decode cX12_whyNotTurn 23 = .ok (.iconst 5, 1) := o_8 (u1_7 hc_X12_whyNotTurn_16 rfl) rfl
theorem dX12_whyNotTurn_24 : decode cX12_whyNotTurn 24 = .ok (.if_icmp .ne 15, 3) := o_160 (u1_8 hc_X12_whyNotTurn_16 rfl) (s2_d (u2_d (u1_9 hc_X12_whyNotTurn_16 rfl) (u1_10 hc_X12_whyNotTurn_16 rfl) rfl) rfl) rfl
theorem dX12_whyNotTurn_27 : decode cX12_whyNotTurn 27 = .ok (.aload_n 0, 1) := o_42 (u1_11 hc_X12_whyNotTurn_16 rfl) rfl
theorem dX12_whyNotTurn_28 : decode cX12_whyNotTurn 28 = .ok (.getfield 56, 3) := o_180 (u1_12 hc_X12_whyNotTurn_16 rfl) (u2_d (u1_13 hc_X12_whyNotTurn_16 rfl) (u1_14 hc_X12_whyNotTurn_16 rfl) rfl) rfl
theorem dX12_whyNotTurn_31 : decode cX12_whyNotTurn 31 = .ok (.iload_n 2, 1) := o_28 (u1_15 hc_X12_whyNotTurn_16 rfl) rfl
theorem hc_X12_whyNotTurn_32 : ((bL cX12_whyNotTurn).drop 32).take 18 = [51, 153, 0, 6, 16, 15, 172, 27, 16, 6, 160, 0, 14, 42, 180, 0, 56, 28] := by decide +kernel
theorem dX12_whyNotTurn_32 : decode cX12_whyNotTurn 32 = .ok (.baload, 1) := o_51 (u1_0 hc_X12_whyNotTurn_32 rfl) rfl
theorem dX12_whyNotTurn_33 : decode cX12_whyNotTurn 33 = .ok (.ifCond .eq 6, 3) := o_153 (u1_1 hc_X12_whyNotTurn_32 rfl) (s2_d (u2_d (u1_2 hc_X12_whyNotTurn_32 rfl) (u1_3 hc_X12_whyNotTurn_32 rfl) rfl) rfl) rfl
theorem dX12_whyNotTurn_36 : decode cX12_whyNotTurn 36 = .ok (.bipush 15, 2) := o_16 (u1_4 hc_X12_whyNotTurn_32 rfl) (s1_d (u1_5 hc_X12_whyNotTurn_32 rfl) rfl) rfl
theorem dX12_whyNotTurn_38 : decode cX12_whyNotTurn 38 = .ok (.ireturn, 1) := o_172 (u1_6 hc_X12_whyNotTurn_32 rfl) rfl
theorem dX12_whyNotTurn_39 : decode cX12_whyNotTurn 39 = .ok (.iload_n 1, 1) := o_27 (u1_7 hc_X12_whyNotTurn_32 rfl) rfl
theorem dX12_whyNotTurn_40 : decode cX12_whyNotTurn 40 = .ok (.bipush 6, 2) := o_16 (u1_8 hc_X12_whyNotTurn_32 rfl) (s1_d (u1_9 hc_X12_whyNotTurn_32 rfl) rfl) rfl
theorem dX12_whyNotTurn_42 : decode cX12_whyNotTurn 42 = .ok (.if_icmp .ne 14, 3) := o_160 (u1_10 hc_X12_whyNotTurn_32 rfl) (s2_d (u2_d (u1_11 hc_X12_whyNotTurn_32 rfl) (u1_12 hc_X12_whyNotTurn_32 rfl) rfl) rfl) rfl
theorem dX12_whyNotTurn_45 : decode cX12_whyNotTurn 45 = .ok (.aload_n 0, 1) := o_42 (u1_13 hc_X12_whyNotTurn_32 rfl) rfl
theorem dX12_whyNotTurn_46 : decode cX12_whyNotTurn 46 = .ok (.getfield 56, 3) := o_180 (u1_14 hc_X12_whyNotTurn_32 rfl) (u2_d (u1_15 hc_X12_whyNotTurn_32 rfl) (u1_16 hc_X12_whyNotTurn_32 rfl) rfl) rfl
theorem hc_X12_whyNotTurn_48 : ((bL cX12_whyNotTurn).drop 48).take 18 = [56, 28, 51, 154, 0, 5, 6, 172, 27, 16, 7, 160, 0, 15, 42, 180, 0, 59] := by decide +kernel
theorem dX12_whyNotTurn_49 : decode cX12_whyNotTurn 49 = .ok (.iload_n 2, 1) := o_28 (u1_1 hc_X12_whyNotTurn_48 rfl) rfl
theorem dX12_whyNotTurn_50 : decode cX12_whyNotTurn 50 = .ok (.baload, 1) := o_51 (u1_2 hc_X12_whyNotTurn_48 rfl) rfl
theorem dX12_whyNotTurn_51 : decode cX12_whyNotTurn 51 = .ok (.ifCond .ne 5, 3) := o_154 (u1_3 hc_X12_whyNotTurn_48 rfl) (s2_d (u2_d (u1_4 hc_X12_whyNotTurn_48 rfl) (u1_5 hc_X12_whyNotTurn_48 rfl) rfl) rfl) rfl
theorem dX12_whyNotTurn_54 : decode cX12_whyNotTurn 54 = .ok (.iconst 3, 1) := o_6 (u1_6 hc_X12_whyNotTurn_48 rfl) rfl
theorem dX12_whyNotTurn_55 : decode cX12_whyNotTurn 55 = .ok (.ireturn, 1) := o_172 (u1_7 hc_X12_whyNotTurn_48 rfl) rfl
theorem dX12_whyNotTurn_56 : decode cX12_whyNotTurn 56 = .ok (.iload_n 1, 1) := o_27 (u1_8 hc_X12_whyNotTurn_48 rfl) rfl
theorem dX12_whyNotTurn_57 : decode cX12_whyNotTurn 57 = .ok (.bipush 7, 2) := o_16 (u1_9 hc_X12_whyNotTurn_48 rfl) (s1_d (u1_10 hc_X12_whyNotTurn_48 rfl) rfl) rfl
theorem dX12_whyNotTurn_59 : decode cX12_whyNotTurn 59 = .ok (.if_icmp .ne 15, 3) := o_160 (u1_11 hc_X12_whyNotTurn_48 rfl) (s2_d (u2_d (u1_12 hc_X12_whyNotTurn_48 rfl) (u1_13 hc_X12_whyNotTurn_48 rfl) rfl) rfl) rfl
theorem dX12_whyNotTurn_62 : decode cX12_whyNotTurn 62 = .ok (.aload_n 0, 1) := o_42 (u1_14 hc_X12_whyNotTurn_48 rfl) rfl
theorem dX12_whyNotTurn_63 : decode cX12_whyNotTurn 63 = .ok (.getfield 59, 3) := o_180 (u1_15 hc_X12_whyNotTurn_48 rfl) (u2_d (u1_16 hc_X12_whyNotTurn_48 rfl) (u1_17 hc_X12_whyNotTurn_48 rfl) rfl) rfl
theorem hc_X12_whyNotTurn_64 : ((bL cX12_whyNotTurn).drop 64).take 18 = [0, 59, 28, 51, 154, 0, 6, 16, 17, 172, 27, 8, 159, 0, 9, 27, 16, 8] := by decide +kernel
theorem dX12_whyNotTurn_66 : decode cX12_whyNotTurn 66 = .ok (.iload_n 2, 1) := o_28 (u1_2 hc_X12_whyNotTurn_64 rfl) rfl
theorem dX12_whyNotTurn_67 : decode cX12_whyNotTurn 67 = .ok (.baload, 1) := o_51 (u1_3 hc_X12_whyNotTurn_64 rfl) rfl
theorem dX12_whyNotTurn_68 : decode cX12_whyNotTurn 68 = .ok (.ifCond .ne 6, 3) := o_154 (u1_4 hc_X12_whyNotTurn_64 rfl) (s2_d (u2_d (u1_5 hc_X12_whyNotTurn_64 rfl) (u1_6 hc_X12_whyNotTurn_64 rfl) rfl) rfl) rfl
theorem dX12_whyNotTurn_71 : decode cX12_whyNotTurn 71 = .ok (.bipush 17, 2) := o_16 (u1_7 hc_X12_whyNotTurn_64 rfl) (s1_d (u1_8 hc_X12_whyNotTurn_64 rfl) rfl) rfl
theorem dX12_whyNotTurn_73 : decode cX12_whyNotTurn 73 = .ok (.ireturn, 1) := o_172 (u1_9 hc_X12_whyNotTurn_64 rfl) rfl
theorem dX12_whyNotTurn_74 : decode cX12_whyNotTurn 74 = .ok (.iload_n 1, 1) := o_27 (u1_10 hc_X12_whyNotTurn_64 rfl) rfl
theorem dX12_whyNotTurn_75 : decode cX12_whyNotTurn 75 = .ok (.iconst 5, 1) := o_8 (u1_11 hc_X12_whyNotTurn_64 rfl) rfl
theorem dX12_whyNotTurn_76 : decode cX12_whyNotTurn 76 = .ok (.if_icmp .eq 9, 3) := o_159 (u1_12 hc_X12_whyNotTurn_64 rfl) (s2_d (u2_d (u1_13 hc_X12_whyNotTurn_64 rfl) (u1_14 hc_X12_whyNotTurn_64 rfl) rfl) rfl) rfl
theorem dX12_whyNotTurn_79 : decode cX12_whyNotTurn 79 = .ok (.iload_n 1, 1) := o_27 (u1_15 hc_X12_whyNotTurn_64 rfl) rfl
theorem hc_X12_whyNotTurn_80 : ((bL cX12_whyNotTurn).drop 80).take 18 = [16, 8, 160, 0, 15, 42, 180, 0, 59, 28, 51, 153, 0, 6, 16, 16, 172, 27] := by decide +kernel
theorem dX12_whyNotTurn_80 : decode cX12_whyNotTurn 80 = .ok (.bipush 8, 2) := o_16 (u1_0 hc_X12_whyNotTurn_80 rfl) (s1_d (u1_1 hc_X12_whyNotTurn_80 rfl) rfl) rfl
theorem dX12_whyNotTurn_82 : decode cX12_whyNotTurn 82 = .ok (.if_icmp .ne 15, 3) := o_160 (u1_2 hc_X12_whyNotTurn_80 rfl) (s2_d (u2_d (u1_3 hc_X12_whyNotTurn_80 rfl) (u1_4 hc_X12_whyNotTurn_80 rfl) rfl) rfl) rfl
theorem dX12_whyNotTurn_85 : decode cX12_whyNotTurn 85 = .ok (.aload_n 0, 1) := o_42 (u1_5 hc_X12_whyNotTurn_80 rfl) rfl
theorem dX12_whyNotTurn_86 : decode cX12_whyNotTurn 86 = .ok (.getfield 59, 3) := o_180 (u1_6 hc_X12_whyNotTurn_80 rfl) (u2_d (u1_7 hc_X12_whyNotTurn_80 rfl) (u1_8 hc_X12_whyNotTurn_80 rfl) rfl) rfl
theorem dX12_whyNotTurn_89 : decode cX12_whyNotTurn 89 = .ok (.iload_n 2, 1) := o_28 (u1_9 hc_X12_whyNotTurn_80 rfl) rfl
theorem dX12_whyNotTurn_90 : decode cX12_whyNotTurn 90 = .ok (.baload, 1) := o_51 (u1_10 hc_X12_whyNotTurn_80 rfl) rfl
theorem dX12_whyNotTurn_91 : decode cX12_whyNotTurn 91 = .ok (.ifCond .eq 6, 3) := o_153 (u1_11 hc_X12_whyNotTurn_80 rfl) (s2_d (u2_d (u1_12 hc_X12_whyNotTurn_80 rfl) (u1_13 hc_X12_whyNotTurn_80 rfl) rfl) rfl) rfl
theorem dX12_whyNotTurn_94 : decode cX12_whyNotTurn 94 = .ok (.bipush 16, 2) := o_16 (u1_14 hc_X12_whyNotTurn_80 rfl) (s1_d (u1_15 hc_X12_whyNotTurn_80 rfl) rfl) rfl
theorem hc_X12_whyNotTurn_96 : ((bL cX12_whyNotTurn).drop 96).take 18 = [172, 27, 16, 8, 160, 0, 15, 42, 180, 0, 56, 28, 51, 153, 0, 6, 16, 15] := by decide +kernel
theorem dX12_whyNotTurn_96 : decode cX12_whyNotTurn 96 = .ok (.ireturn, 1) := o_172 (u1_0 hc_X12_whyNotTurn_96 rfl) rfl
theorem dX12_whyNotTurn_97 : decode cX12_whyNotTurn 97 = .ok (.iload_n 1, 1) := o_27 (u1_1 hc_X12_whyNotTurn_96 rfl) rfl
theorem dX12_whyNotTurn_98 : decode cX12_whyNotTurn 98 = .ok (.bipush 8, 2) := o_16 (u1_2 hc_X12_whyNotTurn_96 rfl) (s1_d (u1_3 hc_X12_whyNotTurn_96 rfl) rfl) rfl
theorem dX12_whyNotTurn_100 : decode cX12_whyNotTurn 100 = .ok (.if_icmp .ne 15, 3) := o_160 (u1_4 hc_X12_whyNotTurn_96 rfl) (s2_d (u2_d (u1_5 hc_X12_whyNotTurn_96 rfl) (u1_6 hc_X12_whyNotTurn_96 rfl) rfl) rfl) rfl
theorem dX12_whyNotTurn_103 : decode cX12_whyNotTurn 103 = .ok (.aload_n 0, 1) := o_42 (u1_7 hc_X12_whyNotTurn_96 rfl) rfl
theorem dX12_whyNotTurn_104 : decode cX12_whyNotTurn 104 = .ok (.getfield 56, 3) := o_180 (u1_8 hc_X12_whyNotTurn_96 rfl) (u2_d (u1_9 hc_X12_whyNotTurn_96 rfl) (u1_10 hc_X12_whyNotTurn_96 rfl) rfl) rfl
theorem dX12_whyNotTurn_107 : decode cX12_whyNotTurn 107 = .ok (.iload_n 2, 1) := o_28 (u1_11 hc_X12_whyNotTurn_96 rfl) rfl
theorem dX12_whyNotTurn_108 : decode cX12_whyNotTurn 108 = .ok (.baload, 1) := o_51 (u1_12 hc_X12_whyNotTurn_96 rfl) rfl
theorem dX12_whyNotTurn_109 : decode cX12_whyNotTurn 109 = .ok (.ifCond .eq 6, 3) := o_153 (u1_13 hc_X12_whyNotTurn_96 rfl) (s2_d (u2_d (u1_14 hc_X12_whyNotTurn_96 rfl) (u1_15 hc_X12_whyNotTurn_96 rfl) rfl) rfl) rfl
theorem hc_X12_whyNotTurn_112 : ((bL cX12_whyNotTurn).drop 112).take 18 = [16, 15, 172, 42, 180, 0, 89, 28, 51, 154, 0, 6, 16, 8, 172, 27, 16, 6] := by decide +kernel
theorem dX12_whyNotTurn_112 : decode cX12_whyNotTurn 112 = .ok (.bipush 15, 2) := o_16 (u1_0 hc_X12_whyNotTurn_112 rfl) (s1_d (u1_1 hc_X12_whyNotTurn_112 rfl) rfl) rfl
theorem dX12_whyNotTurn_114 : decode cX12_whyNotTurn 114 = .ok (.ireturn, 1) := o_172 (u1_2 hc_X12_whyNotTurn_112 rfl) rfl
theorem dX12_whyNotTurn_115 : decode cX12_whyNotTurn 115 = .ok (.aload_n 0, 1) := o_42 (u1_3 hc_X12_whyNotTurn_112 rfl) rfl
theorem dX12_whyNotTurn_116 : decode cX12_whyNotTurn 116 = .ok (.getfield 89, 3) := o_180 (u1_4 hc_X12_whyNotTurn_112 rfl) (u2_d (u1_5 hc_X12_whyNotTurn_112 rfl) (u1_6 hc_X12_whyNotTurn_112 rfl) rfl) rfl
theorem dX12_whyNotTurn_119 : decode cX12_whyNotTurn 119 = .ok (.iload_n 2, 1) := o_28 (u1_7 hc_X12_whyNotTurn_112 rfl) rfl
theorem dX12_whyNotTurn_120 : decode cX12_whyNotTurn 120 = .ok (.baload, 1) := o_51 (u1_8 hc_X12_whyNotTurn_112 rfl) rfl
theorem dX12_whyNotTurn_121 : decode cX12_whyNotTurn 121 = .ok (.ifCond .ne 6, 3) := o_154 (u1_9 hc_X12_whyNotTurn_112 rfl) (s2_d (u2_d (u1_10 hc_X12_whyNotTurn_112 rfl) (u1_11 hc_X12_whyNotTurn_112 rfl) rfl) rfl) rfl
theorem dX12_whyNotTurn_124 : decode cX12_whyNotTurn 124 = .ok (.bipush 8, 2) := o_16 (u1_12 hc_X12_whyNotTurn_112 rfl) (s1_d (u1_13 hc_X12_whyNotTurn_112 rfl) rfl) rfl
theorem dX12_whyNotTurn_126 : decode cX12_whyNotTurn 126 = .ok (.ireturn, 1) := o_172 (u1_14 hc_X12_whyNotTurn_112 rfl) rfl
theorem dX12_whyNotTurn_127 : decode cX12_whyNotTurn 127 = .ok (.iload_n 1, 1) := o_27 (u1_15 hc_X12_whyNotTurn_112 rfl) rfl
theorem hc_X12_whyNotTurn_128 : ((bL cX12_whyNotTurn).drop 128).take 18 = [16, 6, 164, 0, 14, 42, 29, 182, 1, 99, 154, 0, 6, 16, 11, 172, 27, 16] := by decide +kernel
theorem dX12_whyNotTurn_128 : decode cX12_whyNotTurn 128 = .ok (.bipush 6, 2) := o_16 (u1_0 hc_X12_whyNotTurn_128 rfl) (s1_d (u1_1 hc_X12_whyNotTurn_128 rfl) rfl) rfl
theorem dX12_whyNotTurn_130 : decode cX12_whyNotTurn 130 = .ok (.if_icmp .le 14, 3) := o_164 (u1_2 hc_X12_whyNotTurn_128 rfl) (s2_d (u2_d (u1_3 hc_X12_whyNotTurn_128 rfl) (u1_4 hc_X12_whyNotTurn_128 rfl) rfl) rfl) rfl
theorem dX12_whyNotTurn_133 : decode cX12_whyNotTurn 133 = .ok (.aload_n 0, 1) := o_42 (u1_5 hc_X12_whyNotTurn_128 rfl) rfl
theorem dX12_whyNotTurn_134 : decode cX12_whyNotTurn 134 = .ok (.iload_n 3, 1) := o_29 (u1_6 hc_X12_whyNotTurn_128 rfl) rfl
theorem dX12_whyNotTurn_135 : decode cX12_whyNotTurn 135 = .ok (.invokevirtual 355, 3) := o_182 (u1_7 hc_X12_whyNotTurn_128 rfl) (u2_d (u1_8 hc_X12_whyNotTurn_128 rfl) (u1_9 hc_X12_whyNotTurn_128 rfl) rfl) rfl
theorem dX12_whyNotTurn_138 : decode cX12_whyNotTurn 138 = .ok (.ifCond .ne 6, 3) := o_154 (u1_10 hc_X12_whyNotTurn_128 rfl) (s2_d (u2_d (u1_11 hc_X12_whyNotTurn_128 rfl) (u1_12 hc_X12_whyNotTurn_128 rfl) rfl) rfl) rfl
theorem dX12_whyNotTurn_141 : decode cX12_whyNotTurn 141 = .ok (.bipush 11, 2) := o_16 (u1_13 hc_X12_whyNotTurn_128 rfl) (s1_d (u1_14 hc_X12_whyNotTurn_128 rfl) rfl) rfl
theorem dX12_whyNotTurn_143 : decode cX12_whyNotTurn 143 = .ok (.ireturn, 1) := o_172 (u1_15 hc_X12_whyNotTurn_128 rfl) rfl
theorem hc_X12_whyNotTurn_144 : ((bL cX12_whyNotTurn).drop 144).take 18 = [27, 16, 6, 164, 0, 17, 42, 28, 182, 1, 4, 29, 159, 0, 8, 16, 18, 167] := by decide +kernel
theorem dX12_whyNotTurn_144 : decode cX12_whyNotTurn 144 = .ok (.iload_n 1, 1) := o_27 (u1_0 hc_X12_whyNotTurn_144 rfl) rfl
theorem dX12_whyNotTurn_145 : decode cX12_whyNotTurn 145 = .ok (.bipush 6, 2) := o_16 (u1_1 hc_X12_whyNotTurn_144 rfl) (s1_d (u1_2 hc_X12_whyNotTurn_144 rfl) rfl) rfl
theorem dX12_whyNotTurn_147 : decode cX12_whyNotTurn 147 = .ok (.if_icmp .le 17, 3) := o_164 (u1_3 hc_X12_whyNotTurn_144 rfl) (s2_d (u2_d (u1_4 hc_X12_whyNotTurn_144 rfl) (u1_5 hc_X12_whyNotTurn_144 rfl) rfl) rfl) rfl
theorem dX12_whyNotTurn_150 : decode cX12_whyNotTurn 150 = .ok (.aload_n 0, 1) := o_42 (u1_6 hc_X12_whyNotTurn_144 rfl) rfl
theorem dX12_whyNotTurn_151 : decode cX12_whyNotTurn 151 = .ok (.iload_n 2, 1) := o_28 (u1_7 hc_X12_whyNotTurn_144 rfl) rfl
theorem dX12_whyNotTurn_152 : decode cX12_whyNotTurn 152 = .ok (.invokevirtual 260, 3) := o_182 (u1_8 hc_X12_whyNotTurn_144 rfl) (u2_d (u1_9 hc_X12_whyNotTurn_144 rfl) (u1_10 hc_X12_whyNotTurn_144 rfl) rfl) rfl
theorem dX12_whyNotTurn_155 : decode cX12_whyNotTurn 155 = .ok (.iload_n 3, 1) := o_29 (u1_11 hc_X12_whyNotTurn_144 rfl) rfl
theorem dX12_whyNotTurn_156 : decode cX12_whyNotTurn 156 = .ok (.if_icmp .eq 8, 3) := o_159 (u1_12 hc_X12_whyNotTurn_144 rfl) (s2_d (u2_d (u1_13 hc_X12_whyNotTurn_144 rfl) (u1_14 hc_X12_whyNotTurn_144 rfl) rfl) rfl) rfl
theorem dX12_whyNotTurn_159 : decode cX12_whyNotTurn 159 = .ok (.bipush 18, 2) := o_16 (u1_15 hc_X12_whyNotTurn_144 rfl) (s1_d (u1_16 hc_X12_whyNotTurn_144 rfl) rfl) rfl
theorem hc_X12_whyNotTurn_160 : ((bL cX12_whyNotTurn).drop 160).take 18 = [18, 167, 0, 4, 3, 172] := by decide +kernel
theorem dX12_whyNotTurn_161 : decode cX12_whyNotTurn 161 = .ok (.goto 4, 3) := o_167 (u1_1 hc_X12_whyNotTurn_160 rfl) (s2_d (u2_d (u1_2 hc_X12_whyNotTurn_160 rfl) (u1_3 hc_X12_whyNotTurn_160 rfl) rfl) rfl) rfl
theorem dX12_whyNotTurn_164 : decode cX12_whyNotTurn 164 = .ok (.iconst 0, 1) := o_3 (u1_4 hc_X12_whyNotTurn_160 rfl) rfl
theorem dX12_whyNotTurn_165 : decode cX12_whyNotTurn 165 = .ok (.ireturn, 1) := o_172 (u1_5 hc_X12_whyNotTurn_160 rfl) rfl
theorem hc_X12_whyNotEnter_0 : ((bL cX12_whyNotEnter).drop 0).take 18 = [42, 180, 0, 86, 27, 51, 154, 0, 5, 7, 172, 42, 180, 0, 98, 27, 51, 154] := by decide +kernel
theorem dX12_whyNotEnter_0 : decode cX12_whyNotEnter 0 = .ok (.aload_n 0, 1) := o_42 (u1_0 hc_X12_whyNotEnter_0 rfl) rfl
theorem dX12_whyNotEnter_1 : decode cX12_whyNotEnter 1 = .ok (.getfield 86, 3) := o_180 (u1_1 hc_X12_whyNotEnter_0 rfl) (u2_d (u1_2 hc_X12_whyNotEnter_0 rfl) (u1_3 hc_X12_whyNotEnter_0 rfl) rfl) rfl
theorem dX12_whyNotEnter_4 : decode cX12_whyNotEnter 4 = .ok (.iload_n 1, 1) := o_27 (u1_4 hc_X12_whyNotEnter_0 rfl) rfl
theorem dX12_whyNotEnter_5 : decode cX12_whyNotEnter 5 = .ok (.baload, 1) := o_51 (u1_5 hc_X12_whyNotEnter_0 rfl) rfl
theorem dX12_whyNotEnter_6 : decode cX12_whyNotEnter 6 = .ok (.ifCond .ne 5, 3) := o_154 (u1_6 hc_X12_whyNotEnter_0 rfl) (s2_d (u2_d (u1_7 hc_X12_whyNotEnter_0 rfl) (u1_8 hc_X12_whyNotEnter_0 rfl) rfl) rfl) rfl
theorem dX12_whyNotEnter_9 : decode cX12_whyNotEnter 9 = .ok (.iconst 4, 1) := o_7 (u1_9 hc_X12_whyNotEnter_0 rfl) rfl
theorem dX12_whyNotEnter_10 : decode cX12_whyNotEnter 10 = .ok (.ireturn, 1) := o_172 (u1_10 hc_X12_whyNotEnter_0 rfl) rfl
theorem dX12_whyNotEnter_11 : decode cX12_whyNotEnter 11 = .ok (.aload_n 0, 1) := o_42 (u1_11 hc_X12_whyNotEnter_0 rfl) rfl
theorem dX12_whyNotEnter_12 : decode cX12_whyNotEnter 12 = .ok (.getfield 98, 3) := o_180 (u1_12 hc_X12_whyNotEnter_0 rfl) (u2_d (u1_13 hc_X12_whyNotEnter_0 rfl) (u1_14 hc_X12_whyNotEnter_0 rfl) rfl) rfl
theorem dX12_whyNotEnter_15 : decode cX12_whyNotEnter 15 = .ok (.iload_n 1, 1) := o_27 (u1_15 hc_X12_whyNotEnter_0 rfl) rfl
theorem hc_X12_whyNotEnter_16 : ((bL cX12_whyNotEnter).drop 16).take 18 = [51, 154, 0, 15, 42, 27, 7, 182, 0, 184, 154, 0, 6, 16, 12, 172, 42, 42] := by decide +kernel
theorem dX12_whyNotEnter_16 : decode cX12_whyNotEnter 16 = .ok (.baload, 1) := o_51 (u1_0 hc_X12_whyNotEnter_16 rfl) rfl
theorem dX12_whyNotEnter_17 : decode cX12_whyNotEnter 17 = .ok (.ifCond .ne 15, 3) := o_154 (u1_1 hc_X12_whyNotEnter_16 rfl) (s2_d (u2_d (u1_2 hc_X12_whyNotEnter_16 rfl) (u1_3 hc_X12_whyNotEnter_16 rfl) rfl) rfl) rfl
theorem dX12_whyNotEnter_20 : decode cX12_whyNotEnter 20 = .ok (.aload_n 0, 1) := o_42 (u1_4 hc_X12_whyNotEnter_16 rfl) rfl
theorem dX12_whyNotEnter_21 : decode cX12_whyNotEnter 21 = .ok (.iload_n 1, 1) := o_27 (u1_5 hc_X12_whyNotEnter_16 rfl) rfl
theorem dX12_whyNotEnter_22 : decode cX12_whyNotEnter 22 = .ok (.iconst 4, 1) := o_7 (u1_6 hc_X12_whyNotEnter_16 rfl) rfl
theorem dX12_whyNotEnter_23 : decode cX12_whyNotEnter 23 = .ok (.invokevirtual 184, 3) := o_182 (u1_7 hc_X12_whyNotEnter_16 rfl) (u2_d (u1_8 hc_X12_whyNotEnter_16 rfl) (u1_9 hc_X12_whyNotEnter_16 rfl) rfl) rfl
theorem dX12_whyNotEnter_26 : decode cX12_whyNotEnter 26 = .ok (.ifCond .ne 6, 3) := o_154 (u1_10 hc_X12_whyNotEnter_16 rfl) (s2_d (u2_d (u1_11 hc_X12_whyNotEnter_16 rfl) (u1_12 hc_X12_whyNotEnter_16 rfl) rfl) rfl) rfl
theorem dX12_whyNotEnter_29 : decode cX12_whyNotEnter 29 = .ok (.bipush 12, 2) := o_16 (u1_13 hc_X12_whyNotEnter_16 rfl) (s1_d (u1_14 hc_X12_whyNotEnter_16 rfl) rfl) rfl
theorem dX12_whyNotEnter_31 : decode cX12_whyNotEnter 31 = .ok (.ireturn, 1) := o_172 (u1_15 hc_X12_whyNotEnter_16 rfl) rfl
theorem hc_X12_whyNotEnter_32 : ((bL cX12_whyNotEnter).drop 32).take 18 = [42, 42, 180, 0, 155, 27, 182, 1, 96, 153, 0, 6, 16, 13, 172, 42, 180, 0] := by decide +kernel
theorem dX12_whyNotEnter_32 : decode cX12_whyNotEnter 32 = .ok (.aload_n 0, 1) := o_42 (u1_0 hc_X12_whyNotEnter_32 rfl) rfl
theorem dX12_whyNotEnter_33 : decode cX12_whyNotEnter 33 = .ok (.aload_n 0, 1) := o_42 (u1_1 hc_X12_whyNotEnter_32 rfl) rfl
theorem dX12_whyNotEnter_34 : decode cX12_whyNotEnter 34 = .ok (.getfield 155, 3) := o_180 (u1_2 hc_X12_whyNotEnter_32 rfl) (u2_d (u1_3 hc_X12_whyNotEnter_32 rfl) (u1_4 hc_X12_whyNotEnter_32 rfl) rfl) rfl
theorem dX12_whyNotEnter_37 : decode cX12_whyNotEnter 37 = .ok (.iload_n 1, 1) := o_27 (u1_5 hc_X12_whyNotEnter_32 rfl) rfl
theorem dX12_whyNotEnter_38 : decode cX12_whyNotEnter 38 = .ok (.invokevirtual 352, 3) := o_182 (u1_6 hc_X12_whyNotEnter_32 rfl) (u2_d (u1_7 hc_X12_whyNotEnter_32 rfl) (u1_8 hc_X12_whyNotEnter_32 rfl) rfl) rfl
theorem dX12_whyNotEnter_41 : decode cX12_whyNotEnter 41 = .ok (.ifCond .eq 6, 3) := o_153 (u1_9 hc_X12_whyNotEnter_32 rfl) (s2_d (u2_d (u1_10 hc_X12_whyNotEnter_32 rfl) (u1_11 hc_X12_whyNotEnter_32 rfl) rfl) rfl) rfl
theorem dX12_whyNotEnter_44 : decode cX12_whyNotEnter 44 = .ok (.bipush 13, 2) := o_16 (u1_12 hc_X12_whyNotEnter_32 rfl) (s1_d (u1_13 hc_X12_whyNotEnter_32 rfl) rfl) rfl
theorem dX12_whyNotEnter_46 : decode cX12_whyNotEnter 46 = .ok (.ireturn, 1) := o_172 (u1_14 hc_X12_whyNotEnter_32 rfl) rfl
theorem dX12_whyNotEnter_47 : decode cX12_whyNotEnter 47 = .ok (.aload_n 0, 1) := o_42 (u1_15 hc_X12_whyNotEnter_32 rfl) rfl
theorem hc_X12_whyNotEnter_48 : ((bL cX12_whyNotEnter).drop 48).take 18 = [180, 0, 98, 27, 51, 153, 0, 14, 42, 180, 0, 56, 27, 51, 154, 0, 5, 6] := by decide +kernel
theorem dX12_whyNotEnter_48 : decode cX12_whyNotEnter 48 = .ok (.getfield 98, 3) := o_180 (u1_0 hc_X12_whyNotEnter_48 rfl) (u2_d (u1_1 hc_X12_whyNotEnter_48 rfl) (u1_2 hc_X12_whyNotEnter_48 rfl) rfl) rfl
theorem dX12_whyNotEnter_51 : decode cX12_whyNotEnter 51 = .ok (.iload_n 1, 1) := o_27 (u1_3 hc_X12_whyNotEnter_48 rfl) rfl
theorem dX12_whyNotEnter_52 : decode cX12_whyNotEnter 52 = .ok (.baload, 1) := o_51 (u1_4 hc_X12_whyNotEnter_48 rfl) rfl
theorem dX12_whyNotEnter_53 : decode cX12_whyNotEnter 53 = .ok (.ifCond .eq 14, 3) := o_153 (u1_5 hc_X12_whyNotEnter_48 rfl) (s2_d (u2_d (u1_6 hc_X12_whyNotEnter_48 rfl) (u1_7 hc_X12_whyNotEnter_48 rfl) rfl) rfl) rfl
theorem dX12_whyNotEnter_56 : decode cX12_whyNotEnter 56 = .ok (.aload_n 0, 1) := o_42 (u1_8 hc_X12_whyNotEnter_48 rfl) rfl
theorem dX12_whyNotEnter_57 : decode cX12_whyNotEnter 57 = .ok (.getfield 56, 3) := o_180 (u1_9 hc_X12_whyNotEnter_48 rfl) (u2_d (u1_10 hc_X12_whyNotEnter_48 rfl) (u1_11 hc_X12_whyNotEnter_48 rfl) rfl) rfl
theorem dX12_whyNotEnter_60 : decode cX12_whyNotEnter 60 = .ok (.iload_n 1, 1) := o_27 (u1_12 hc_X12_whyNotEnter_48 rfl) rfl
theorem dX12_whyNotEnter_61 : decode cX12_whyNotEnter 61 = .ok (.baload, 1) := o_51 (u1_13 hc_X12_whyNotEnter_48 rfl) rfl
theorem dX12_whyNotEnter_62 : decode cX12_whyNotEnter 62 = .ok (.ifCond .ne 5, 3) := o_154 (u1_14 hc_X12_whyNotEnter_48 rfl) (s2_d (u2_d (u1_15 hc_X12_whyNotEnter_48 rfl) (u1_16 hc_X12_whyNotEnter_48 rfl) rfl) rfl) rfl
theorem hc_X12_whyNotEnter_64 : ((bL cX12_whyNotEnter).drop 64).take 18 = [5, 6, 172, 42, 180, 0, 89, 27, 51, 154, 0, 6, 16, 8, 172, 42, 180, 0] := by decide +kernel
theorem dX12_whyNotEnter_65 : decode cX12_whyNotEnter 65 = .ok (.iconst 3, 1) := o_6 (u1_1 hc_X12_whyNotEnter_64 rfl) rfl
theorem dX12_whyNotEnter_66 : decode cX12_whyNotEnter 66 = .ok (.ireturn, 1) := o_172 (u1_2 hc_X12_whyNotEnter_64 rfl) rfl
theorem dX12_whyNotEnter_67 : decode cX12_whyNotEnter 67 = .ok (.aload_n 0, 1) := o_42 (u1_3 hc_X12_whyNotEnter_64 rfl) rfl
theorem dX12_whyNotEnter_68 : decode cX12_whyNotEnter 68 = .ok (.getfield 89, 3) := o_180 (u1_4 hc_X12_whyNotEnter_64 rfl) (u2_d (u1_5 hc_X12_whyNotEnter_64 rfl) (u1_6 hc_X12_whyNotEnter_64 rfl) rfl) rfl
theorem dX12_whyNotEnter_71 : decode cX12_whyNotEnter 71 = .ok (.iload_n 1, 1) := o_27 (u1_7 hc_X12_whyNotEnter_64 rfl) rfl
theorem dX12_whyNotEnter_72 : decode cX12_whyNotEnter 72 = .ok (.baload, 1) := o_51 (u1_8 hc_X12_whyNotEnter_64 rfl) rfl
theorem dX12_whyNotEnter_73 : decode cX12_whyNotEnter 73 = .ok (.ifCond .ne 6, 3) := o_154 (u1_9 hc_X12_whyNotEnter_64 rfl) (s2_d (u2_d (u1_10 hc_X12_whyNotEnter_64 rfl) (u1_11 hc_X12_whyNotEnter_64 rfl) rfl) rfl) rfl
theorem dX12_whyNotEnter_76 : decode cX12_whyNotEnter 76 = .ok (.bipush 8, 2) := o_16 (u1_12 hc_X12_whyNotEnter_64 rfl) (s1_d (u1_13 hc_X12_whyNotEnter_64 rfl) rfl) rfl
theorem dX12_whyNotEnter_78 : decode cX12_whyNotEnter 78 = .ok (.ireturn, 1) := o_172 (u1_14 hc_X12_whyNotEnter_64 rfl) rfl
theorem dX12_whyNotEnter_79 : decode cX12_whyNotEnter 79 = .ok (.aload_n 0, 1) := o_42 (u1_15 hc_X12_whyNotEnter_64 rfl) rfl
theorem hc_X12_whyNotEnter_80 : ((bL cX12_whyNotEnter).drop 80).take 18 = [180, 0, 53, 42, 180, 0, 155, 46, 27, 160, 0, 8, 16, 20, 167, 0, 4, 3] := by decide +kernel
theorem dX12_whyNotEnter_80 : decode cX12_whyNotEnter 80 = .ok (.getfield 53, 3) := o_180 (u1_0 hc_X12_whyNotEnter_80 rfl) (u2_d (u1_1 hc_X12_whyNotEnter_80 rfl) (u1_2 hc_X12_whyNotEnter_80 rfl) rfl) rfl
theorem dX12_whyNotEnter_83 : decode cX12_whyNotEnter 83 = .ok (.aload_n 0, 1) := o_42 (u1_3 hc_X12_whyNotEnter_80 rfl) rfl
theorem dX12_whyNotEnter_84 : decode cX12_whyNotEnter 84 = .ok (.getfield 155, 3) := o_180 (u1_4 hc_X12_whyNotEnter_80 rfl) (u2_d (u1_5 hc_X12_whyNotEnter_80 rfl) (u1_6 hc_X12_whyNotEnter_80 rfl) rfl) rfl
theorem dX12_whyNotEnter_87 : decode cX12_whyNotEnter 87 = .ok (.iaload, 1) := o_46 (u1_7 hc_X12_whyNotEnter_80 rfl) rfl
theorem dX12_whyNotEnter_88 : decode cX12_whyNotEnter 88 = .ok (.iload_n 1, 1) := o_27 (u1_8 hc_X12_whyNotEnter_80 rfl) rfl
theorem dX12_whyNotEnter_89 : decode cX12_whyNotEnter 89 = .ok (.if_icmp .ne 8, 3) := o_160 (u1_9 hc_X12_whyNotEnter_80 rfl) (s2_d (u2_d (u1_10 hc_X12_whyNotEnter_80 rfl) (u1_11 hc_X12_whyNotEnter_80 rfl) rfl) rfl) rfl
theorem dX12_whyNotEnter_92 : decode cX12_whyNotEnter 92 = .ok (.bipush 20, 2) := o_16 (u1_12 hc_X12_whyNotEnter_80 rfl) (s1_d (u1_13 hc_X12_whyNotEnter_80 rfl) rfl) rfl
theorem dX12_whyNotEnter_94 : decode cX12_whyNotEnter 94 = .ok (.goto 4, 3) := o_167 (u1_14 hc_X12_whyNotEnter_80 rfl) (s2_d (u2_d (u1_15 hc_X12_whyNotEnter_80 rfl) (u1_16 hc_X12_whyNotEnter_80 rfl) rfl) rfl) rfl
theorem hc_X12_whyNotEnter_96 : ((bL cX12_whyNotEnter).drop 96).take 18 = [4, 3, 172] := by decide +kernel
theorem dX12_whyNotEnter_97 : decode cX12_whyNotEnter 97 = .ok (.iconst 0, 1) := o_3 (u1_1 hc_X12_whyNotEnter_96 rfl) rfl
theorem dX12_whyNotEnter_98 : decode cX12_whyNotEnter 98 = .ok (.ireturn, 1) := o_172 (u1_2 hc_X12_whyNotEnter_96 rfl) rfl
theorem hc_X12_whyNotLeave_0 : ((bL cX12_whyNotLeave).drop 0).take 18 = [42, 182, 1, 92, 153, 0, 5, 4, 172, 42, 180, 0, 53, 42, 180, 0, 155, 46] := by decide +kernel
theorem dX12_whyNotLeave_0 : decode cX12_whyNotLeave 0 = .ok (.aload_n 0, 1) := o_42 (u1_0 hc_X12_whyNotLeave_0 rfl) rfl
theorem dX12_whyNotLeave_1 : decode cX12_whyNotLeave 1 = .ok (.invokevirtual 348, 3) := o_182 (u1_1 hc_X12_whyNotLeave_0 rfl) (u2_d (u1_2 hc_X12_whyNotLeave_0 rfl) (u1_3 hc_X12_whyNotLeave_0 rfl) rfl) rfl
theorem dX12_whyNotLeave_4 : decode cX12_whyNotLeave 4 = .ok (.ifCond .eq 5, 3) := o_153 (u1_4 hc_X12_whyNotLeave_0 rfl) (s2_d (u2_d (u1_5 hc_X12_whyNotLeave_0 rfl) (u1_6 hc_X12_whyNotLeave_0 rfl) rfl) rfl) rfl
theorem dX12_whyNotLeave_7 : decode cX12_whyNotLeave 7 = .ok (.iconst 1, 1) := o_4 (u1_7 hc_X12_whyNotLeave_0 rfl) rfl
theorem dX12_whyNotLeave_8 : decode cX12_whyNotLeave 8 = .ok (.ireturn, 1) := o_172 (u1_8 hc_X12_whyNotLeave_0 rfl) rfl
theorem dX12_whyNotLeave_9 : decode cX12_whyNotLeave 9 = .ok (.aload_n 0, 1) := o_42 (u1_9 hc_X12_whyNotLeave_0 rfl) rfl
theorem dX12_whyNotLeave_10 : decode cX12_whyNotLeave 10 = .ok (.getfield 53, 3) := o_180 (u1_10 hc_X12_whyNotLeave_0 rfl) (u2_d (u1_11 hc_X12_whyNotLeave_0 rfl) (u1_12 hc_X12_whyNotLeave_0 rfl) rfl) rfl
theorem dX12_whyNotLeave_13 : decode cX12_whyNotLeave 13 = .ok (.aload_n 0, 1) := o_42 (u1_13 hc_X12_whyNotLeave_0 rfl) rfl
theorem dX12_whyNotLeave_14 : decode cX12_whyNotLeave 14 = .ok (.getfield 155, 3) := o_180 (u1_14 hc_X12_whyNotLeave_0 rfl) (u2_d (u1_15 hc_X12_whyNotLeave_0 rfl) (u1_16 hc_X12_whyNotLeave_0 rfl) rfl) rfl
theorem hc_X12_whyNotLeave_16 : ((bL cX12_whyNotLeave).drop 16).take 18 = [155, 46, 60, 42, 180, 0, 50, 42, 180, 0, 155, 46, 154, 0, 23, 42, 180, 0] := by decide +kernel
theorem dX12_whyNotLeave_17 : decode cX12_whyNotLeave 17 = .ok (.iaload, 1) := o_46 (u1_1 hc_X12_whyNotLeave_16 rfl) rfl
theorem dX12_whyNotLeave_18 : decode cX12_whyNotLeave 18 = .ok (.istore_n 1, 1) := o_60 (u1_2 hc_X12_whyNotLeave_16 rfl) rfl
theorem dX12_whyNotLeave_19 : decode cX12_whyNotLeave 19 = .ok (.aload_n 0, 1) := o_42 (u1_3 hc_X12_whyNotLeave_16 rfl) rfl
theorem dX12_whyNotLeave_20 : decode cX12_whyNotLeave 20 = .ok (.getfield 50, 3) := o_180 (u1_4 hc_X12_whyNotLeave_16 rfl) (u2_d (u1_5 hc_X12_whyNotLeave_16 rfl) (u1_6 hc_X12_whyNotLeave_16 rfl) rfl) rfl
theorem dX12_whyNotLeave_23 : decode cX12_whyNotLeave 23 = .ok (.aload_n 0, 1) := o_42 (u1_7 hc_X12_whyNotLeave_16 rfl) rfl
theorem dX12_whyNotLeave_24 : decode cX12_whyNotLeave 24 = .ok (.getfield 155, 3) := o_180 (u1_8 hc_X12_whyNotLeave_16 rfl) (u2_d (u1_9 hc_X12_whyNotLeave_16 rfl) (u1_10 hc_X12_whyNotLeave_16 rfl) rfl) rfl
theorem dX12_whyNotLeave_27 : decode cX12_whyNotLeave 27 = .ok (.iaload, 1) := o_46 (u1_11 hc_X12_whyNotLeave_16 rfl) rfl
theorem dX12_whyNotLeave_28 : decode cX12_whyNotLeave 28 = .ok (.ifCond .ne 23, 3) := o_154 (u1_12 hc_X12_whyNotLeave_16 rfl) (s2_d (u2_d (u1_13 hc_X12_whyNotLeave_16 rfl) (u1_14 hc_X12_whyNotLeave_16 rfl) rfl) rfl) rfl
theorem dX12_whyNotLeave_31 : decode cX12_whyNotLeave 31 = .ok (.aload_n 0, 1) := o_42 (u1_15 hc_X12_whyNotLeave_16 rfl) rfl
theorem hc_X12_whyNotLeave_32 : ((bL cX12_whyNotLeave).drop 32).take 18 = [180, 0, 98, 27, 51, 153, 0, 14, 42, 180, 0, 56, 27, 51, 154, 0, 5, 6] := by decide +kernel
theorem dX12_whyNotLeave_32 : decode cX12_whyNotLeave 32 = .ok (.getfield 98, 3) := o_180 (u1_0 hc_X12_whyNotLeave_32 rfl) (u2_d (u1_1 hc_X12_whyNotLeave_32 rfl) (u1_2 hc_X12_whyNotLeave_32 rfl) rfl) rfl
theorem dX12_whyNotLeave_35 : decode cX12_whyNotLeave 35 = .ok (.iload_n 1, 1) := o_27 (u1_3 hc_X12_whyNotLeave_32 rfl) rfl
theorem dX12_whyNotLeave_36 : decode cX12_whyNotLeave 36 = .ok (.baload, 1) := o_51 (u1_4 hc_X12_whyNotLeave_32 rfl) rfl
theorem dX12_whyNotLeave_37 : decode cX12_whyNotLeave 37 = .ok (.ifCond .eq 14, 3) := o_153 (u1_5 hc_X12_whyNotLeave_32 rfl) (s2_d (u2_d (u1_6 hc_X12_whyNotLeave_32 rfl) (u1_7 hc_X12_whyNotLeave_32 rfl) rfl) rfl) rfl
theorem dX12_whyNotLeave_40 : decode cX12_whyNotLeave 40 = .ok (.aload_n 0, 1) := o_42 (u1_8 hc_X12_whyNotLeave_32 rfl) rfl
theorem dX12_whyNotLeave_41 : decode cX12_whyNotLeave 41 = .ok (.getfield 56, 3) := o_180 (u1_9 hc_X12_whyNotLeave_32 rfl) (u2_d (u1_10 hc_X12_whyNotLeave_32 rfl) (u1_11 hc_X12_whyNotLeave_32 rfl) rfl) rfl
theorem dX12_whyNotLeave_44 : decode cX12_whyNotLeave 44 = .ok (.iload_n 1, 1) := o_27 (u1_12 hc_X12_whyNotLeave_32 rfl) rfl
theorem dX12_whyNotLeave_45 : decode cX12_whyNotLeave 45 = .ok (.baload, 1) := o_51 (u1_13 hc_X12_whyNotLeave_32 rfl) rfl
theorem dX12_whyNotLeave_46 : decode cX12_whyNotLeave 46 = .ok (.ifCond .ne 5, 3) := o_154 (u1_14 hc_X12_whyNotLeave_32 rfl) (s2_d (u2_d (u1_15 hc_X12_whyNotLeave_32 rfl) (u1_16 hc_X12_whyNotLeave_32 rfl) rfl) rfl) rfl
theorem hc_X12_whyNotLeave_48 : ((bL cX12_whyNotLeave).drop 48).take 18 = [5, 6, 172, 42, 180, 0, 50, 27, 46, 153, 0, 18, 42, 180, 0, 50, 27, 46] := by decide +kernel
theorem dX12_whyNotLeave_49 : decode cX12_whyNotLeave 49 = .ok (.iconst 3, 1) := o_6 (u1_1 hc_X12_whyNotLeave_48 rfl) rfl
theorem dX12_whyNotLeave_50 : decode cX12_whyNotLeave 50 = .ok (.ireturn, 1) := o_172 (u1_2 hc_X12_whyNotLeave_48 rfl) rfl
theorem dX12_whyNotLeave_51 : decode cX12_whyNotLeave 51 = .ok (.aload_n 0, 1) := o_42 (u1_3 hc_X12_whyNotLeave_48 rfl) rfl
theorem dX12_whyNotLeave_52 : decode cX12_whyNotLeave 52 = .ok (.getfield 50, 3) := o_180 (u1_4 hc_X12_whyNotLeave_48 rfl) (u2_d (u1_5 hc_X12_whyNotLeave_48 rfl) (u1_6 hc_X12_whyNotLeave_48 rfl) rfl) rfl
theorem dX12_whyNotLeave_55 : decode cX12_whyNotLeave 55 = .ok (.iload_n 1, 1) := o_27 (u1_7 hc_X12_whyNotLeave_48 rfl) rfl
theorem dX12_whyNotLeave_56 : decode cX12_whyNotLeave 56 = .ok (.iaload, 1) := o_46 (u1_8 hc_X12_whyNotLeave_48 rfl) rfl
theorem dX12_whyNotLeave_57 : decode cX12_whyNotLeave 57 = .ok (.ifCond .eq 18, 3) := o_153 (u1_9 hc_X12_whyNotLeave_48 rfl) (s2_d (u2_d (u1_10 hc_X12_whyNotLeave_48 rfl) (u1_11 hc_X12_whyNotLeave_48 rfl) rfl) rfl) rfl
theorem dX12_whyNotLeave_60 : decode cX12_whyNotLeave 60 = .ok (.aload_n 0, 1) := o_42 (u1_12 hc_X12_whyNotLeave_48 rfl) rfl
theorem dX12_whyNotLeave_61 : decode cX12_whyNotLeave 61 = .ok (.getfield 50, 3) := o_180 (u1_13 hc_X12_whyNotLeave_48 rfl) (u2_d (u1_14 hc_X12_whyNotLeave_48 rfl) (u1_15 hc_X12_whyNotLeave_48 rfl) rfl) rfl
theorem hc_X12_whyNotLeave_64 : ((bL cX12_whyNotLeave).drop 64).take 18 = [27, 46, 4, 159, 0, 8, 16, 21, 167, 0, 4, 3, 172] := by decide +kernel
theorem dX12_whyNotLeave_64 : decode cX12_whyNotLeave 64 = .ok (.iload_n 1, 1) := o_27 (u1_0 hc_X12_whyNotLeave_64 rfl) rfl
theorem dX12_whyNotLeave_65 : decode cX12_whyNotLeave 65 = .ok (.iaload, 1) := o_46 (u1_1 hc_X12_whyNotLeave_64 rfl) rfl
theorem dX12_whyNotLeave_66 : decode cX12_whyNotLeave 66 = .ok (.iconst 1, 1) := o_4 (u1_2 hc_X12_whyNotLeave_64 rfl) rfl
theorem dX12_whyNotLeave_67 : decode cX12_whyNotLeave 67 = .ok (.if_icmp .eq 8, 3) := o_159 (u1_3 hc_X12_whyNotLeave_64 rfl) (s2_d (u2_d (u1_4 hc_X12_whyNotLeave_64 rfl) (u1_5 hc_X12_whyNotLeave_64 rfl) rfl) rfl) rfl
theorem dX12_whyNotLeave_70 : decode cX12_whyNotLeave 70 = .ok (.bipush 21, 2) := o_16 (u1_6 hc_X12_whyNotLeave_64 rfl) (s1_d (u1_7 hc_X12_whyNotLeave_64 rfl) rfl) rfl
theorem dX12_whyNotLeave_72 : decode cX12_whyNotLeave 72 = .ok (.goto 4, 3) := o_167 (u1_8 hc_X12_whyNotLeave_64 rfl) (s2_d (u2_d (u1_9 hc_X12_whyNotLeave_64 rfl) (u1_10 hc_X12_whyNotLeave_64 rfl) rfl) rfl) rfl
theorem dX12_whyNotLeave_75 : decode cX12_whyNotLeave 75 = .ok (.iconst 0, 1) := o_3 (u1_11 hc_X12_whyNotLeave_64 rfl) rfl
theorem dX12_whyNotLeave_76 : decode cX12_whyNotLeave 76 = .ok (.ireturn, 1) := o_172 (u1_12 hc_X12_whyNotLeave_64 rfl) rfl
theorem hc_X12_whyNot_0 : ((bL cX12_whyNot).drop 0).take 18 = [27, 170, 0, 0, 0, 0, 0, 156, 0, 0, 0, 0, 0, 0, 0, 11, 0, 0] := by decide +kernel
theorem dX12_whyNot_0 : decode cX12_whyNot 0 = .ok (.iload_n 1, 1) := o_27 (u1_0 hc_X12_whyNot_0 rfl) rfl
theorem dX12_whyNot_1 : decode cX12_whyNot 1 = .ok (.tableswitch 156 0 11 #[63, 69, 75, 90, 90, 107, 107, 107, 107, 115, 145, 151], 63) := by decide +kernel
theorem hc_X12_whyNot_64 : ((bL cX12_whyNot).drop 64).take 18 = [42, 28, 182, 1, 105, 172, 42, 28, 182, 1, 108, 172, 42, 28, 182, 1, 99, 153] := by decide +kernel
theorem dX12_whyNot_64 : decode cX12_whyNot 64 = .ok (.aload_n 0, 1) := o_42 (u1_0 hc_X12_whyNot_64 rfl) rfl
theorem dX12_whyNot_65 : decode cX12_whyNot 65 = .ok (.iload_n 2, 1) := o_28 (u1_1 hc_X12_whyNot_64 rfl) rfl
theorem dX12_whyNot_66 : decode cX12_whyNot 66 = .ok (.invokevirtual 361, 3) := o_182 (u1_2 hc_X12_whyNot_64 rfl) (u2_d (u1_3 hc_X12_whyNot_64 rfl) (u1_4 hc_X12_whyNot_64 rfl) rfl) rfl
theorem dX12_whyNot_69 : decode cX12_whyNot 69 = .ok (.ireturn, 1) := o_172 (u1_5 hc_X12_whyNot_64 rfl) rfl
theorem dX12_whyNot_70 : decode cX12_whyNot 70 = .ok (.aload_n 0, 1) := o_42 (u1_6 hc_X12_whyNot_64 rfl) rfl
theorem dX12_whyNot_71 : decode cX12_whyNot 71 = .ok (.iload_n 2, 1) := o_28 (u1_7 hc_X12_whyNot_64 rfl) rfl
theorem dX12_whyNot_72 : decode cX12_whyNot 72 = .ok (.invokevirtual 364, 3) := o_182 (u1_8 hc_X12_whyNot_64 rfl) (u2_d (u1_9 hc_X12_whyNot_64 rfl) (u1_10 hc_X12_whyNot_64 rfl) rfl) rfl
theorem dX12_whyNot_75 : decode cX12_whyNot 75 = .ok (.ireturn, 1) := o_172 (u1_11 hc_X12_whyNot_64 rfl) rfl
theorem dX12_whyNot_76 : decode cX12_whyNot 76 = .ok (.aload_n 0, 1) := o_42 (u1_12 hc_X12_whyNot_64 rfl) rfl
theorem dX12_whyNot_77 : decode cX12_whyNot 77 = .ok (.iload_n 2, 1) := o_28 (u1_13 hc_X12_whyNot_64 rfl) rfl
theorem dX12_whyNot_78 : decode cX12_whyNot 78 = .ok (.invokevirtual 355, 3) := o_182 (u1_14 hc_X12_whyNot_64 rfl) (u2_d (u1_15 hc_X12_whyNot_64 rfl) (u1_16 hc_X12_whyNot_64 rfl) rfl) rfl
theorem hc_X12_whyNot_80 : ((bL cX12_whyNot).drop 80).take 18 = [99, 153, 0, 7, 3, 167, 0, 5, 16, 11, 172, 42, 28, 29, 27, 6, 160, 0] := by decide +kernel
theorem dX12_whyNot_81 : decode cX12_whyNot 81 = .ok (.ifCond .eq 7, 3) := o_153 (u1_1 hc_X12_whyNot_80 rfl) (s2_d (u2_d (u1_2 hc_X12_whyNot_80 rfl) (u1_3 hc_X12_whyNot_80 rfl) rfl) rfl) rfl
theorem dX12_whyNot_84 : decode cX12_whyNot 84 = .ok (.iconst 0, 1) := o_3 (u1_4 hc_X12_whyNot_80 rfl) rfl
theorem dX12_whyNot_85 : decode cX12_whyNot 85 = .ok (.goto 5, 3) := o_167 (u1_5 hc_X12_whyNot_80 rfl) (s2_d (u2_d (u1_6 hc_X12_whyNot_80 rfl) (u1_7 hc_X12_whyNot_80 rfl) rfl) rfl) rfl
theorem dX12_whyNot_88 : decode cX12_whyNot 88 = .ok (.bipush 11, 2) := o_16 (u1_8 hc_X12_whyNot_80 rfl) (s1_d (u1_9 hc_X12_whyNot_80 rfl) rfl) rfl
theorem dX12_whyNot_90 : decode cX12_whyNot 90 = .ok (.ireturn, 1) := o_172 (u1_10 hc_X12_whyNot_80 rfl) rfl
theorem dX12_whyNot_91 : decode cX12_whyNot 91 = .ok (.aload_n 0, 1) := o_42 (u1_11 hc_X12_whyNot_80 rfl) rfl
theorem dX12_whyNot_92 : decode cX12_whyNot 92 = .ok (.iload_n 2, 1) := o_28 (u1_12 hc_X12_whyNot_80 rfl) rfl
theorem dX12_whyNot_93 : decode cX12_whyNot 93 = .ok (.iload_n 3, 1) := o_29 (u1_13 hc_X12_whyNot_80 rfl) rfl
theorem dX12_whyNot_94 : decode cX12_whyNot 94 = .ok (.iload_n 1, 1) := o_27 (u1_14 hc_X12_whyNot_80 rfl) rfl
theorem dX12_whyNot_95 : decode cX12_whyNot 95 = .ok (.iconst 3, 1) := o_6 (u1_15 hc_X12_whyNot_80 rfl) rfl
theorem hc_X12_whyNot_96 : ((bL cX12_whyNot).drop 96).take 18 = [160, 0, 7, 4, 167, 0, 4, 3, 182, 1, 111, 172, 42, 27, 28, 29, 182, 1] := by decide +kernel
theorem dX12_whyNot_96 : decode cX12_whyNot 96 = .ok (.if_icmp .ne 7, 3) := o_160 (u1_0 hc_X12_whyNot_96 rfl) (s2_d (u2_d (u1_1 hc_X12_whyNot_96 rfl) (u1_2 hc_X12_whyNot_96 rfl) rfl) rfl) rfl
theorem dX12_whyNot_99 : decode cX12_whyNot 99 = .ok (.iconst 1, 1) := o_4 (u1_3 hc_X12_whyNot_96 rfl) rfl
theorem dX12_whyNot_100 : decode cX12_whyNot 100 = .ok (.goto 4, 3) := o_167 (u1_4 hc_X12_whyNot_96 rfl) (s2_d (u2_d (u1_5 hc_X12_whyNot_96 rfl) (u1_6 hc_X12_whyNot_96 rfl) rfl) rfl) rfl
theorem dX12_whyNot_103 : decode cX12_whyNot 103 = .ok (.iconst 0, 1) := o_3 (u1_7 hc_X12_whyNot_96 rfl) rfl
theorem dX12_whyNot_104 : decode cX12_whyNot 104 = .ok (.invokevirtual 367, 3) := o_182 (u1_8 hc_X12_whyNot_96 rfl) (u2_d (u1_9 hc_X12_whyNot_96 rfl) (u1_10 hc_X12_whyNot_96 rfl) rfl) rfl
theorem dX12_whyNot_107 : decode cX12_whyNot 107 = .ok (.ireturn, 1) := o_172 (u1_11 hc_X12_whyNot_96 rfl) rfl
theorem dX12_whyNot_108 : decode cX12_whyNot 108 = .ok (.aload_n 0, 1) := o_42 (u1_12 hc_X12_whyNot_96 rfl) rfl
theorem dX12_whyNot_109 : decode cX12_whyNot 109 = .ok (.iload_n 1, 1) := o_27 (u1_13 hc_X12_whyNot_96 rfl) rfl
theorem dX12_whyNot_110 : decode cX12_whyNot 110 = .ok (.iload_n 2, 1) := o_28 (u1_14 hc_X12_whyNot_96 rfl) rfl
theorem dX12_whyNot_111 : decode cX12_whyNot 111 = .ok (.iload_n 3, 1) := o_29 (u1_15 hc_X12_whyNot_96 rfl) rfl
theorem hc_X12_whyNot_112 : ((bL cX12_whyNot).drop 112).take 18 = [182, 1, 115, 172, 42, 28, 182, 1, 99, 154, 0, 8, 16, 11, 167, 0, 19, 42] := by decide +kernel
theorem dX12_whyNot_112 : decode cX12_whyNot 112 = .ok (.invokevirtual 371, 3) := o_182 (u1_0 hc_X12_whyNot_112 rfl) (u2_d (u1_1 hc_X12_whyNot_112 rfl) (u1_2 hc_X12_whyNot_112 rfl) rfl) rfl
theorem dX12_whyNot_115 : decode cX12_whyNot 115 = .ok (.ireturn, 1) := o_172 (u1_3 hc_X12_whyNot_112 rfl) rfl
theorem dX12_whyNot_116 : decode cX12_whyNot 116 = .ok (.aload_n 0, 1) := o_42 (u1_4 hc_X12_whyNot_112 rfl) rfl
theorem dX12_whyNot_117 : decode cX12_whyNot 117 = .ok (.iload_n 2, 1) := o_28 (u1_5 hc_X12_whyNot_112 rfl) rfl
theorem dX12_whyNot_118 : decode cX12_whyNot 118 = .ok (.invokevirtual 355, 3) := o_182 (u1_6 hc_X12_whyNot_112 rfl) (u2_d (u1_7 hc_X12_whyNot_112 rfl) (u1_8 hc_X12_whyNot_112 rfl) rfl) rfl
theorem dX12_whyNot_121 : decode cX12_whyNot 121 = .ok (.ifCond .ne 8, 3) := o_154 (u1_9 hc_X12_whyNot_112 rfl) (s2_d (u2_d (u1_10 hc_X12_whyNot_112 rfl) (u1_11 hc_X12_whyNot_112 rfl) rfl) rfl) rfl
theorem dX12_whyNot_124 : decode cX12_whyNot 124 = .ok (.bipush 11, 2) := o_16 (u1_12 hc_X12_whyNot_112 rfl) (s1_d (u1_13 hc_X12_whyNot_112 rfl) rfl) rfl
theorem dX12_whyNot_126 : decode cX12_whyNot 126 = .ok (.goto 19, 3) := o_167 (u1_14 hc_X12_whyNot_112 rfl) (s2_d (u2_d (u1_15 hc_X12_whyNot_112 rfl) (u1_16 hc_X12_whyNot_112 rfl) rfl) rfl) rfl
theorem hc_X12_whyNot_128 : ((bL cX12_whyNot).drop 128).take 18 = [19, 42, 28, 7, 182, 1, 0, 4, 160, 0, 7, 3, 167, 0, 5, 16, 19, 172] := by decide +kernel
theorem dX12_whyNot_129 : decode cX12_whyNot 129 = .ok (.aload_n 0, 1) := o_42 (u1_1 hc_X12_whyNot_128 rfl) rfl
theorem dX12_whyNot_130 : decode cX12_whyNot 130 = .ok (.iload_n 2, 1) := o_28 (u1_2 hc_X12_whyNot_128 rfl) rfl
theorem dX12_whyNot_131 : decode cX12_whyNot 131 = .ok (.iconst 4, 1) := o_7 (u1_3 hc_X12_whyNot_128 rfl) rfl
theorem dX12_whyNot_132 : decode cX12_whyNot 132 = .ok (.invokevirtual 256, 3) := o_182 (u1_4 hc_X12_whyNot_128 rfl) (u2_d (u1_5 hc_X12_whyNot_128 rfl) (u1_6 hc_X12_whyNot_128 rfl) rfl) rfl
theorem dX12_whyNot_135 : decode cX12_whyNot 135 = .ok (.iconst 1, 1) := o_4 (u1_7 hc_X12_whyNot_128 rfl) rfl
theorem dX12_whyNot_136 : decode cX12_whyNot 136 = .ok (.if_icmp .ne 7, 3) := o_160 (u1_8 hc_X12_whyNot_128 rfl) (s2_d (u2_d (u1_9 hc_X12_whyNot_128 rfl) (u1_10 hc_X12_whyNot_128 rfl) rfl) rfl) rfl
theorem dX12_whyNot_139 : decode cX12_whyNot 139 = .ok (.iconst 0, 1) := o_3 (u1_11 hc_X12_whyNot_128 rfl) rfl
theorem dX12_whyNot_140 : decode cX12_whyNot 140 = .ok (.goto 5, 3) := o_167 (u1_12 hc_X12_whyNot_128 rfl) (s2_d (u2_d (u1_13 hc_X12_whyNot_128 rfl) (u1_14 hc_X12_whyNot_128 rfl) rfl) rfl) rfl
theorem dX12_whyNot_143 : decode cX12_whyNot 143 = .ok (.bipush 19, 2) := o_16 (u1_15 hc_X12_whyNot_128 rfl) (s1_d (u1_16 hc_X12_whyNot_128 rfl) rfl) rfl
theorem hc_X12_whyNot_144 : ((bL cX12_whyNot).drop 144).take 18 = [19, 172, 42, 28, 182, 1, 119, 172, 42, 182, 1, 122, 172, 3, 172] := by decide +kernel
theorem dX12_whyNot_145 : decode cX12_whyNot 145 = .ok (.ireturn, 1) := o_172 (u1_1 hc_X12_whyNot_144 rfl) rfl
theorem dX12_whyNot_146 : decode cX12_whyNot 146 = .ok (.aload_n 0, 1) := o_42 (u1_2 hc_X12_whyNot_144 rfl) rfl
theorem dX12_whyNot_147 : decode cX12_whyNot 147 = .ok (.iload_n 2, 1) := o_28 (u1_3 hc_X12_whyNot_144 rfl) rfl
theorem dX12_whyNot_148 : decode cX12_whyNot 148 = .ok (.invokevirtual 375, 3) := o_182 (u1_4 hc_X12_whyNot_144 rfl) (u2_d (u1_5 hc_X12_whyNot_144 rfl) (u1_6 hc_X12_whyNot_144 rfl) rfl) rfl
theorem dX12_whyNot_151 : decode cX12_whyNot 151 = .ok (.ireturn, 1) := o_172 (u1_7 hc_X12_whyNot_144 rfl) rfl
theorem dX12_whyNot_152 : decode cX12_whyNot 152 = .ok (.aload_n 0, 1) := o_42 (u1_8 hc_X12_whyNot_144 rfl) rfl
theorem dX12_whyNot_153 : decode cX12_whyNot 153 = .ok (.invokevirtual 378, 3) := o_182 (u1_9 hc_X12_whyNot_144 rfl) (u2_d (u1_10 hc_X12_whyNot_144 rfl) (u1_11 hc_X12_whyNot_144 rfl) rfl) rfl
theorem dX12_whyNot_156 : decode cX12_whyNot 156 = .ok (.ireturn, 1) := o_172 (u1_12 hc_X12_whyNot_144 rfl) rfl
theorem dX12_whyNot_157 : decode cX12_whyNot 157 = .ok (.iconst 0, 1) := o_3 (u1_13 hc_X12_whyNot_144 rfl) rfl
theorem dX12_whyNot_158 : decode cX12_whyNot 158 = .ok (.ireturn, 1) := o_172 (u1_14 hc_X12_whyNot_144 rfl) rfl
theorem hc_X12_lay_0 : ((bL cX12_lay).drop 0).take 18 = [42, 180, 0, 50, 27, 28, 79, 42, 180, 0, 53, 27, 29, 79, 177] := by decide +kernel
theorem dX12_lay_0 : decode cX12_lay 0 = .ok (.aload_n 0, 1) := o_42 (u1_0 hc_X12_lay_0 rfl) rfl
theorem dX12_lay_1 : decode cX12_lay 1 = .ok (.getfield 50, 3) := o_180 (u1_1 hc_X12_lay_0 rfl) (u2_d (u1_2 hc_X12_lay_0 rfl) (u1_3 hc_X12_lay_0 rfl) rfl) rfl
theorem dX12_lay_4 : decode cX12_lay 4 = .ok (.iload_n 1, 1) := o_27 (u1_4 hc_X12_lay_0 rfl) rfl
theorem dX12_lay_5 : decode cX12_lay 5 = .ok (.iload_n 2, 1) := o_28 (u1_5 hc_X12_lay_0 rfl) rfl
theorem dX12_lay_6 : decode cX12_lay 6 = .ok (.iastore, 1) := o_79 (u1_6 hc_X12_lay_0 rfl) rfl
theorem dX12_lay_7 : decode cX12_lay 7 = .ok (.aload_n 0, 1) := o_42 (u1_7 hc_X12_lay_0 rfl) rfl
theorem dX12_lay_8 : decode cX12_lay 8 = .ok (.getfield 53, 3) := o_180 (u1_8 hc_X12_lay_0 rfl) (u2_d (u1_9 hc_X12_lay_0 rfl) (u1_10 hc_X12_lay_0 rfl) rfl) rfl
theorem dX12_lay_11 : decode cX12_lay 11 = .ok (.iload_n 1, 1) := o_27 (u1_11 hc_X12_lay_0 rfl) rfl
theorem dX12_lay_12 : decode cX12_lay 12 = .ok (.iload_n 3, 1) := o_29 (u1_12 hc_X12_lay_0 rfl) rfl
theorem dX12_lay_13 : decode cX12_lay 13 = .ok (.iastore, 1) := o_79 (u1_13 hc_X12_lay_0 rfl) rfl
theorem dX12_lay_14 : decode cX12_lay 14 = .ok (.return_, 1) := o_177 (u1_14 hc_X12_lay_0 rfl) rfl
theorem hc_X12_acts_0 : ((bL cX12_acts).drop 0).take 18 = [27, 170, 0, 0, 0, 0, 1, 15, 0, 0, 0, 0, 0, 0, 0, 11, 0, 0] := by decide +kernel
theorem dX12_acts_0 : decode cX12_acts 0 = .ok (.iload_n 1, 1) := o_27 (u1_0 hc_X12_acts_0 rfl) rfl
theorem dX12_acts_1 : decode cX12_acts 1 = .ok (.tableswitch 271 0 11 #[63, 95, 108, 134, 144, 154, 154, 173, 173, 193, 206, 232], 63) := by decide +kernel
theorem hc_X12_acts_64 : ((bL cX12_acts).drop 64).take 18 = [42, 42, 180, 0, 53, 42, 180, 0, 155, 46, 28, 182, 1, 25, 54, 4, 42, 42] := by decide +kernel
theorem dX12_acts_64 : decode cX12_acts 64 = .ok (.aload_n 0, 1) := o_42 (u1_0 hc_X12_acts_64 rfl) rfl
theorem dX12_acts_65 : decode cX12_acts 65 = .ok (.aload_n 0, 1) := o_42 (u1_1 hc_X12_acts_64 rfl) rfl
theorem dX12_acts_66 : decode cX12_acts 66 = .ok (.getfield 53, 3) := o_180 (u1_2 hc_X12_acts_64 rfl) (u2_d (u1_3 hc_X12_acts_64 rfl) (u1_4 hc_X12_acts_64 rfl) rfl) rfl
theorem dX12_acts_69 : decode cX12_acts 69 = .ok (.aload_n 0, 1) := o_42 (u1_5 hc_X12_acts_64 rfl) rfl
theorem dX12_acts_70 : decode cX12_acts 70 = .ok (.getfield 155, 3) := o_180 (u1_6 hc_X12_acts_64 rfl) (u2_d (u1_7 hc_X12_acts_64 rfl) (u1_8 hc_X12_acts_64 rfl) rfl) rfl
theorem dX12_acts_73 : decode cX12_acts 73 = .ok (.iaload, 1) := o_46 (u1_9 hc_X12_acts_64 rfl) rfl
theorem dX12_acts_74 : decode cX12_acts 74 = .ok (.iload_n 2, 1) := o_28 (u1_10 hc_X12_acts_64 rfl) rfl
theorem dX12_acts_75 : decode cX12_acts 75 = .ok (.invokevirtual 281, 3) := o_182 (u1_11 hc_X12_acts_64 rfl) (u2_d (u1_12 hc_X12_acts_64 rfl) (u1_13 hc_X12_acts_64 rfl) rfl) rfl
theorem dX12_acts_78 : decode cX12_acts 78 = .ok (.istore 4, 2) := o_54 (u1_14 hc_X12_acts_64 rfl) (u1_15 hc_X12_acts_64 rfl) rfl
theorem hc_X12_acts_80 : ((bL cX12_acts).drop 80).take 18 = [42, 42, 180, 0, 155, 3, 42, 180, 1, 7, 182, 1, 125, 167, 0, 179, 42, 28] := by decide +kernel
theorem dX12_acts_80 : decode cX12_acts 80 = .ok (.aload_n 0, 1) := o_42 (u1_0 hc_X12_acts_80 rfl) rfl
theorem dX12_acts_81 : decode cX12_acts 81 = .ok (.aload_n 0, 1) := o_42 (u1_1 hc_X12_acts_80 rfl) rfl
theorem dX12_acts_82 : decode cX12_acts 82 = .ok (.getfield 155, 3) := o_180 (u1_2 hc_X12_acts_80 rfl) (u2_d (u1_3 hc_X12_acts_80 rfl) (u1_4 hc_X12_acts_80 rfl) rfl) rfl
theorem dX12_acts_85 : decode cX12_acts 85 = .ok (.iconst 0, 1) := o_3 (u1_5 hc_X12_acts_80 rfl) rfl
theorem dX12_acts_86 : decode cX12_acts 86 = .ok (.aload_n 0, 1) := o_42 (u1_6 hc_X12_acts_80 rfl) rfl
theorem dX12_acts_87 : decode cX12_acts 87 = .ok (.getfield 263, 3) := o_180 (u1_7 hc_X12_acts_80 rfl) (u2_d (u1_8 hc_X12_acts_80 rfl) (u1_9 hc_X12_acts_80 rfl) rfl) rfl
theorem dX12_acts_90 : decode cX12_acts 90 = .ok (.invokevirtual 381, 3) := o_182 (u1_10 hc_X12_acts_80 rfl) (u2_d (u1_11 hc_X12_acts_80 rfl) (u1_12 hc_X12_acts_80 rfl) rfl) rfl
theorem dX12_acts_93 : decode cX12_acts 93 = .ok (.goto 179, 3) := o_167 (u1_13 hc_X12_acts_80 rfl) (s2_d (u2_d (u1_14 hc_X12_acts_80 rfl) (u1_15 hc_X12_acts_80 rfl) rfl) rfl) rfl
theorem hc_X12_acts_96 : ((bL cX12_acts).drop 96).take 18 = [42, 28, 5, 42, 180, 0, 155, 182, 1, 125, 167, 0, 166, 42, 28, 42, 180, 0] := by decide +kernel
theorem dX12_acts_96 : decode cX12_acts 96 = .ok (.aload_n 0, 1) := o_42 (u1_0 hc_X12_acts_96 rfl) rfl
theorem dX12_acts_97 : decode cX12_acts 97 = .ok (.iload_n 2, 1) := o_28 (u1_1 hc_X12_acts_96 rfl) rfl
theorem dX12_acts_98 : decode cX12_acts 98 = .ok (.iconst 2, 1) := o_5 (u1_2 hc_X12_acts_96 rfl) rfl
theorem dX12_acts_99 : decode cX12_acts 99 = .ok (.aload_n 0, 1) := o_42 (u1_3 hc_X12_acts_96 rfl) rfl
theorem dX12_acts_100 : decode cX12_acts 100 = .ok (.getfield 155, 3) := o_180 (u1_4 hc_X12_acts_96 rfl) (u2_d (u1_5 hc_X12_acts_96 rfl) (u1_6 hc_X12_acts_96 rfl) rfl) rfl
theorem dX12_acts_103 : decode cX12_acts 103 = .ok (.invokevirtual 381, 3) := o_182 (u1_7 hc_X12_acts_96 rfl) (u2_d (u1_8 hc_X12_acts_96 rfl) (u1_9 hc_X12_acts_96 rfl) rfl) rfl
theorem dX12_acts_106 : decode cX12_acts 106 = .ok (.goto 166, 3) := o_167 (u1_10 hc_X12_acts_96 rfl) (s2_d (u2_d (u1_11 hc_X12_acts_96 rfl) (u1_12 hc_X12_acts_96 rfl) rfl) rfl) rfl
theorem dX12_acts_109 : decode cX12_acts 109 = .ok (.aload_n 0, 1) := o_42 (u1_13 hc_X12_acts_96 rfl) rfl
theorem dX12_acts_110 : decode cX12_acts 110 = .ok (.iload_n 2, 1) := o_28 (u1_14 hc_X12_acts_96 rfl) rfl
theorem dX12_acts_111 : decode cX12_acts 111 = .ok (.aload_n 0, 1) := o_42 (u1_15 hc_X12_acts_96 rfl) rfl
theorem hc_X12_acts_112 : ((bL cX12_acts).drop 112).take 18 = [180, 0, 50, 42, 180, 0, 155, 46, 42, 180, 0, 53, 42, 180, 0, 155, 46, 182] := by decide +kernel
theorem dX12_acts_112 : decode cX12_acts 112 = .ok (.getfield 50, 3) := o_180 (u1_0 hc_X12_acts_112 rfl) (u2_d (u1_1 hc_X12_acts_112 rfl) (u1_2 hc_X12_acts_112 rfl) rfl) rfl
theorem dX12_acts_115 : decode cX12_acts 115 = .ok (.aload_n 0, 1) := o_42 (u1_3 hc_X12_acts_112 rfl) rfl
theorem dX12_acts_116 : decode cX12_acts 116 = .ok (.getfield 155, 3) := o_180 (u1_4 hc_X12_acts_112 rfl) (u2_d (u1_5 hc_X12_acts_112 rfl) (u1_6 hc_X12_acts_112 rfl) rfl) rfl
theorem dX12_acts_119 : decode cX12_acts 119 = .ok (.iaload, 1) := o_46 (u1_7 hc_X12_acts_112 rfl) rfl
theorem dX12_acts_120 : decode cX12_acts 120 = .ok (.aload_n 0, 1) := o_42 (u1_8 hc_X12_acts_112 rfl) rfl
theorem dX12_acts_121 : decode cX12_acts 121 = .ok (.getfield 53, 3) := o_180 (u1_9 hc_X12_acts_112 rfl) (u2_d (u1_10 hc_X12_acts_112 rfl) (u1_11 hc_X12_acts_112 rfl) rfl) rfl
theorem dX12_acts_124 : decode cX12_acts 124 = .ok (.aload_n 0, 1) := o_42 (u1_12 hc_X12_acts_112 rfl) rfl
theorem dX12_acts_125 : decode cX12_acts 125 = .ok (.getfield 155, 3) := o_180 (u1_13 hc_X12_acts_112 rfl) (u2_d (u1_14 hc_X12_acts_112 rfl) (u1_15 hc_X12_acts_112 rfl) rfl) rfl
theorem hc_X12_acts_128 : ((bL cX12_acts).drop 128).take 18 = [46, 182, 1, 125, 167, 0, 140, 42, 28, 3, 29, 182, 1, 125, 167, 0, 130, 42] := by decide +kernel
theorem dX12_acts_128 : decode cX12_acts 128 = .ok (.iaload, 1) := o_46 (u1_0 hc_X12_acts_128 rfl) rfl
theorem dX12_acts_129 : decode cX12_acts 129 = .ok (.invokevirtual 381, 3) := o_182 (u1_1 hc_X12_acts_128 rfl) (u2_d (u1_2 hc_X12_acts_128 rfl) (u1_3 hc_X12_acts_128 rfl) rfl) rfl
theorem dX12_acts_132 : decode cX12_acts 132 = .ok (.goto 140, 3) := o_167 (u1_4 hc_X12_acts_128 rfl) (s2_d (u2_d (u1_5 hc_X12_acts_128 rfl) (u1_6 hc_X12_acts_128 rfl) rfl) rfl) rfl
theorem dX12_acts_135 : decode cX12_acts 135 = .ok (.aload_n 0, 1) := o_42 (u1_7 hc_X12_acts_128 rfl) rfl
theorem dX12_acts_136 : decode cX12_acts 136 = .ok (.iload_n 2, 1) := o_28 (u1_8 hc_X12_acts_128 rfl) rfl
theorem dX12_acts_137 : decode cX12_acts 137 = .ok (.iconst 0, 1) := o_3 (u1_9 hc_X12_acts_128 rfl) rfl
theorem dX12_acts_138 : decode cX12_acts 138 = .ok (.iload_n 3, 1) := o_29 (u1_10 hc_X12_acts_128 rfl) rfl
theorem dX12_acts_139 : decode cX12_acts 139 = .ok (.invokevirtual 381, 3) := o_182 (u1_11 hc_X12_acts_128 rfl) (u2_d (u1_12 hc_X12_acts_128 rfl) (u1_13 hc_X12_acts_128 rfl) rfl) rfl
theorem dX12_acts_142 : decode cX12_acts 142 = .ok (.goto 130, 3) := o_167 (u1_14 hc_X12_acts_128 rfl) (s2_d (u2_d (u1_15 hc_X12_acts_128 rfl) (u1_16 hc_X12_acts_128 rfl) rfl) rfl) rfl
theorem hc_X12_acts_144 : ((bL cX12_acts).drop 144).take 18 = [130, 42, 28, 4, 29, 182, 1, 125, 167, 0, 120, 42, 180, 0, 56, 28, 27, 8] := by decide +kernel
theorem dX12_acts_145 : decode cX12_acts 145 = .ok (.aload_n 0, 1) := o_42 (u1_1 hc_X12_acts_144 rfl) rfl
theorem dX12_acts_146 : decode cX12_acts 146 = .ok (.iload_n 2, 1) := o_28 (u1_2 hc_X12_acts_144 rfl) rfl
theorem dX12_acts_147 : decode cX12_acts 147 = .ok (.iconst 1, 1) := o_4 (u1_3 hc_X12_acts_144 rfl) rfl
theorem dX12_acts_148 : decode cX12_acts 148 = .ok (.iload_n 3, 1) := o_29 (u1_4 hc_X12_acts_144 rfl) rfl
theorem dX12_acts_149 : decode cX12_acts 149 = .ok (.invokevirtual 381, 3) := o_182 (u1_5 hc_X12_acts_144 rfl) (u2_d (u1_6 hc_X12_acts_144 rfl) (u1_7 hc_X12_acts_144 rfl) rfl) rfl
theorem dX12_acts_152 : decode cX12_acts 152 = .ok (.goto 120, 3) := o_167 (u1_8 hc_X12_acts_144 rfl) (s2_d (u2_d (u1_9 hc_X12_acts_144 rfl) (u1_10 hc_X12_acts_144 rfl) rfl) rfl) rfl
theorem dX12_acts_155 : decode cX12_acts 155 = .ok (.aload_n 0, 1) := o_42 (u1_11 hc_X12_acts_144 rfl) rfl
theorem dX12_acts_156 : decode cX12_acts 156 = .ok (.getfield 56, 3) := o_180 (u1_12 hc_X12_acts_144 rfl) (u2_d (u1_13 hc_X12_acts_144 rfl) (u1_14 hc_X12_acts_144 rfl) rfl) rfl
theorem dX12_acts_159 : decode cX12_acts 159 = .ok (.iload_n 2, 1) := o_28 (u1_15 hc_X12_acts_144 rfl) rfl
theorem hc_X12_acts_160 : ((bL cX12_acts).drop 160).take 18 = [27, 8, 160, 0, 7, 4, 167, 0, 4, 3, 84, 167, 0, 101, 42, 180, 0, 59] := by decide +kernel
theorem dX12_acts_160 : decode cX12_acts 160 = .ok (.iload_n 1, 1) := o_27 (u1_0 hc_X12_acts_160 rfl) rfl
theorem dX12_acts_161 : decode cX12_acts 161 = .ok (.iconst 5, 1) := o_8 (u1_1 hc_X12_acts_160 rfl) rfl
theorem dX12_acts_162 : decode cX12_acts 162 = .ok (.if_icmp .ne 7, 3) := o_160 (u1_2 hc_X12_acts_160 rfl) (s2_d (u2_d (u1_3 hc_X12_acts_160 rfl) (u1_4 hc_X12_acts_160 rfl) rfl) rfl) rfl
theorem dX12_acts_165 : decode cX12_acts 165 = .ok (.iconst 1, 1) := o_4 (u1_5 hc_X12_acts_160 rfl) rfl
theorem dX12_acts_166 : decode cX12_acts 166 = .ok (.goto 4, 3) := o_167 (u1_6 hc_X12_acts_160 rfl) (s2_d (u2_d (u1_7 hc_X12_acts_160 rfl) (u1_8 hc_X12_acts_160 rfl) rfl) rfl) rfl
theorem dX12_acts_169 : decode cX12_acts 169 = .ok (.iconst 0, 1) := o_3 (u1_9 hc_X12_acts_160 rfl) rfl
theorem dX12_acts_170 : decode cX12_acts 170 = .ok (.bastore, 1) := o_84 (u1_10 hc_X12_acts_160 rfl) rfl
theorem dX12_acts_171 : decode cX12_acts 171 = .ok (.goto 101, 3) := o_167 (u1_11 hc_X12_acts_160 rfl) (s2_d (u2_d (u1_12 hc_X12_acts_160 rfl) (u1_13 hc_X12_acts_160 rfl) rfl) rfl) rfl
theorem dX12_acts_174 : decode cX12_acts 174 = .ok (.aload_n 0, 1) := o_42 (u1_14 hc_X12_acts_160 rfl) rfl
theorem dX12_acts_175 : decode cX12_acts 175 = .ok (.getfield 59, 3) := o_180 (u1_15 hc_X12_acts_160 rfl) (u2_d (u1_16 hc_X12_acts_160 rfl) (u1_17 hc_X12_acts_160 rfl) rfl) rfl
theorem hc_X12_acts_176 : ((bL cX12_acts).drop 176).take 18 = [0, 59, 28, 27, 16, 8, 160, 0, 7, 4, 167, 0, 4, 3, 84, 167, 0, 81] := by decide +kernel
theorem dX12_acts_178 : decode cX12_acts 178 = .ok (.iload_n 2, 1) := o_28 (u1_2 hc_X12_acts_176 rfl) rfl
theorem dX12_acts_179 : decode cX12_acts 179 = .ok (.iload_n 1, 1) := o_27 (u1_3 hc_X12_acts_176 rfl) rfl
theorem dX12_acts_180 : decode cX12_acts 180 = .ok (.bipush 8, 2) := o_16 (u1_4 hc_X12_acts_176 rfl) (s1_d (u1_5 hc_X12_acts_176 rfl) rfl) rfl
theorem dX12_acts_182 : decode cX12_acts 182 = .ok (.if_icmp .ne 7, 3) := o_160 (u1_6 hc_X12_acts_176 rfl) (s2_d (u2_d (u1_7 hc_X12_acts_176 rfl) (u1_8 hc_X12_acts_176 rfl) rfl) rfl) rfl
theorem dX12_acts_185 : decode cX12_acts 185 = .ok (.iconst 1, 1) := o_4 (u1_9 hc_X12_acts_176 rfl) rfl
theorem dX12_acts_186 : decode cX12_acts 186 = .ok (.goto 4, 3) := o_167 (u1_10 hc_X12_acts_176 rfl) (s2_d (u2_d (u1_11 hc_X12_acts_176 rfl) (u1_12 hc_X12_acts_176 rfl) rfl) rfl) rfl
theorem dX12_acts_189 : decode cX12_acts 189 = .ok (.iconst 0, 1) := o_3 (u1_13 hc_X12_acts_176 rfl) rfl
theorem dX12_acts_190 : decode cX12_acts 190 = .ok (.bastore, 1) := o_84 (u1_14 hc_X12_acts_176 rfl) rfl
theorem dX12_acts_191 : decode cX12_acts 191 = .ok (.goto 81, 3) := o_167 (u1_15 hc_X12_acts_176 rfl) (s2_d (u2_d (u1_16 hc_X12_acts_176 rfl) (u1_17 hc_X12_acts_176 rfl) rfl) rfl) rfl
theorem hc_X12_acts_192 : ((bL cX12_acts).drop 192).take 18 = [0, 81, 42, 28, 6, 42, 180, 0, 155, 182, 1, 125, 167, 0, 68, 42, 42, 180] := by decide +kernel
theorem dX12_acts_194 : decode cX12_acts 194 = .ok (.aload_n 0, 1) := o_42 (u1_2 hc_X12_acts_192 rfl) rfl
theorem dX12_acts_195 : decode cX12_acts 195 = .ok (.iload_n 2, 1) := o_28 (u1_3 hc_X12_acts_192 rfl) rfl
theorem dX12_acts_196 : decode cX12_acts 196 = .ok (.iconst 3, 1) := o_6 (u1_4 hc_X12_acts_192 rfl) rfl
theorem dX12_acts_197 : decode cX12_acts 197 = .ok (.aload_n 0, 1) := o_42 (u1_5 hc_X12_acts_192 rfl) rfl
theorem dX12_acts_198 : decode cX12_acts 198 = .ok (.getfield 155, 3) := o_180 (u1_6 hc_X12_acts_192 rfl) (u2_d (u1_7 hc_X12_acts_192 rfl) (u1_8 hc_X12_acts_192 rfl) rfl) rfl
theorem dX12_acts_201 : decode cX12_acts 201 = .ok (.invokevirtual 381, 3) := o_182 (u1_9 hc_X12_acts_192 rfl) (u2_d (u1_10 hc_X12_acts_192 rfl) (u1_11 hc_X12_acts_192 rfl) rfl) rfl
theorem dX12_acts_204 : decode cX12_acts 204 = .ok (.goto 68, 3) := o_167 (u1_12 hc_X12_acts_192 rfl) (s2_d (u2_d (u1_13 hc_X12_acts_192 rfl) (u1_14 hc_X12_acts_192 rfl) rfl) rfl) rfl
theorem dX12_acts_207 : decode cX12_acts 207 = .ok (.aload_n 0, 1) := o_42 (u1_15 hc_X12_acts_192 rfl) rfl
theorem hc_X12_acts_208 : ((bL cX12_acts).drop 208).take 18 = [42, 180, 0, 155, 42, 180, 0, 98, 28, 51, 153, 0, 7, 3, 167, 0, 4, 4] := by decide +kernel
theorem dX12_acts_208 : decode cX12_acts 208 = .ok (.aload_n 0, 1) := o_42 (u1_0 hc_X12_acts_208 rfl) rfl
theorem dX12_acts_209 : decode cX12_acts 209 = .ok (.getfield 155, 3) := o_180 (u1_1 hc_X12_acts_208 rfl) (u2_d (u1_2 hc_X12_acts_208 rfl) (u1_3 hc_X12_acts_208 rfl) rfl) rfl
theorem dX12_acts_212 : decode cX12_acts 212 = .ok (.aload_n 0, 1) := o_42 (u1_4 hc_X12_acts_208 rfl) rfl
theorem dX12_acts_213 : decode cX12_acts 213 = .ok (.getfield 98, 3) := o_180 (u1_5 hc_X12_acts_208 rfl) (u2_d (u1_6 hc_X12_acts_208 rfl) (u1_7 hc_X12_acts_208 rfl) rfl) rfl
theorem dX12_acts_216 : decode cX12_acts 216 = .ok (.iload_n 2, 1) := o_28 (u1_8 hc_X12_acts_208 rfl) rfl
theorem dX12_acts_217 : decode cX12_acts 217 = .ok (.baload, 1) := o_51 (u1_9 hc_X12_acts_208 rfl) rfl
theorem dX12_acts_218 : decode cX12_acts 218 = .ok (.ifCond .eq 7, 3) := o_153 (u1_10 hc_X12_acts_208 rfl) (s2_d (u2_d (u1_11 hc_X12_acts_208 rfl) (u1_12 hc_X12_acts_208 rfl) rfl) rfl) rfl
theorem dX12_acts_221 : decode cX12_acts 221 = .ok (.iconst 0, 1) := o_3 (u1_13 hc_X12_acts_208 rfl) rfl
theorem dX12_acts_222 : decode cX12_acts 222 = .ok (.goto 4, 3) := o_167 (u1_14 hc_X12_acts_208 rfl) (s2_d (u2_d (u1_15 hc_X12_acts_208 rfl) (u1_16 hc_X12_acts_208 rfl) rfl) rfl) rfl
theorem hc_X12_acts_224 : ((bL cX12_acts).drop 224).take 18 = [4, 4, 28, 182, 1, 125, 167, 0, 42, 42, 42, 180, 0, 155, 42, 180, 0, 50] := by decide +kernel
theorem dX12_acts_225 : decode cX12_acts 225 = .ok (.iconst 1, 1) := o_4 (u1_1 hc_X12_acts_224 rfl) rfl
theorem dX12_acts_226 : decode cX12_acts 226 = .ok (.iload_n 2, 1) := o_28 (u1_2 hc_X12_acts_224 rfl) rfl
theorem dX12_acts_227 : decode cX12_acts 227 = .ok (.invokevirtual 381, 3) := o_182 (u1_3 hc_X12_acts_224 rfl) (u2_d (u1_4 hc_X12_acts_224 rfl) (u1_5 hc_X12_acts_224 rfl) rfl) rfl
theorem dX12_acts_230 : decode cX12_acts 230 = .ok (.goto 42, 3) := o_167 (u1_6 hc_X12_acts_224 rfl) (s2_d (u2_d (u1_7 hc_X12_acts_224 rfl) (u1_8 hc_X12_acts_224 rfl) rfl) rfl) rfl
theorem dX12_acts_233 : decode cX12_acts 233 = .ok (.aload_n 0, 1) := o_42 (u1_9 hc_X12_acts_224 rfl) rfl
theorem dX12_acts_234 : decode cX12_acts 234 = .ok (.aload_n 0, 1) := o_42 (u1_10 hc_X12_acts_224 rfl) rfl
theorem dX12_acts_235 : decode cX12_acts 235 = .ok (.getfield 155, 3) := o_180 (u1_11 hc_X12_acts_224 rfl) (u2_d (u1_12 hc_X12_acts_224 rfl) (u1_13 hc_X12_acts_224 rfl) rfl) rfl
theorem dX12_acts_238 : decode cX12_acts 238 = .ok (.aload_n 0, 1) := o_42 (u1_14 hc_X12_acts_224 rfl) rfl
theorem dX12_acts_239 : decode cX12_acts 239 = .ok (.getfield 50, 3) := o_180 (u1_15 hc_X12_acts_224 rfl) (u2_d (u1_16 hc_X12_acts_224 rfl) (u1_17 hc_X12_acts_224 rfl) rfl) rfl
theorem hc_X12_acts_240 : ((bL cX12_acts).drop 240).take 18 = [0, 50, 42, 180, 0, 53, 42, 180, 0, 155, 46, 46, 42, 180, 0, 53, 42, 180] := by decide +kernel
theorem dX12_acts_242 : decode cX12_acts 242 = .ok (.aload_n 0, 1) := o_42 (u1_2 hc_X12_acts_240 rfl) rfl
theorem dX12_acts_243 : decode cX12_acts 243 = .ok (.getfield 53, 3) := o_180 (u1_3 hc_X12_acts_240 rfl) (u2_d (u1_4 hc_X12_acts_240 rfl) (u1_5 hc_X12_acts_240 rfl) rfl) rfl
theorem dX12_acts_246 : decode cX12_acts 246 = .ok (.aload_n 0, 1) := o_42 (u1_6 hc_X12_acts_240 rfl) rfl
theorem dX12_acts_247 : decode cX12_acts 247 = .ok (.getfield 155, 3) := o_180 (u1_7 hc_X12_acts_240 rfl) (u2_d (u1_8 hc_X12_acts_240 rfl) (u1_9 hc_X12_acts_240 rfl) rfl) rfl
theorem dX12_acts_250 : decode cX12_acts 250 = .ok (.iaload, 1) := o_46 (u1_10 hc_X12_acts_240 rfl) rfl
theorem dX12_acts_251 : decode cX12_acts 251 = .ok (.iaload, 1) := o_46 (u1_11 hc_X12_acts_240 rfl) rfl
theorem dX12_acts_252 : decode cX12_acts 252 = .ok (.aload_n 0, 1) := o_42 (u1_12 hc_X12_acts_240 rfl) rfl
theorem dX12_acts_253 : decode cX12_acts 253 = .ok (.getfield 53, 3) := o_180 (u1_13 hc_X12_acts_240 rfl) (u2_d (u1_14 hc_X12_acts_240 rfl) (u1_15 hc_X12_acts_240 rfl) rfl) rfl
theorem hc_X12_acts_256 : ((bL cX12_acts).drop 256).take 18 = [42, 180, 0, 53, 42, 180, 0, 155, 46, 46, 182, 1, 125, 167, 0, 3, 177] := by decide +kernel
theorem dX12_acts_256 : decode cX12_acts 256 = .ok (.aload_n 0, 1) := o_42 (u1_0 hc_X12_acts_256 rfl) rfl
theorem dX12_acts_257 : decode cX12_acts 257 = .ok (.getfield 53, 3) := o_180 (u1_1 hc_X12_acts_256 rfl) (u2_d (u1_2 hc_X12_acts_256 rfl) (u1_3 hc_X12_acts_256 rfl) rfl) rfl
theorem dX12_acts_260 : decode cX12_acts 260 = .ok (.aload_n 0, 1) := o_42 (u1_4 hc_X12_acts_256 rfl) rfl
theorem dX12_acts_261 : decode cX12_acts 261 = .ok (.getfield 155, 3) := o_180 (u1_5 hc_X12_acts_256 rfl) (u2_d (u1_6 hc_X12_acts_256 rfl) (u1_7 hc_X12_acts_256 rfl) rfl) rfl
theorem dX12_acts_264 : decode cX12_acts 264 = .ok (.iaload, 1) := o_46 (u1_8 hc_X12_acts_256 rfl) rfl
theorem dX12_acts_265 : decode cX12_acts 265 = .ok (.iaload, 1) := o_46 (u1_9 hc_X12_acts_256 rfl) rfl
theorem dX12_acts_266 : decode cX12_acts 266 = .ok (.invokevirtual 381, 3) := o_182 (u1_10 hc_X12_acts_256 rfl) (u2_d (u1_11 hc_X12_acts_256 rfl) (u1_12 hc_X12_acts_256 rfl) rfl) rfl
theorem dX12_acts_269 : decode cX12_acts 269 = .ok (.goto 3, 3) := o_167 (u1_13 hc_X12_acts_256 rfl) (s2_d (u2_d (u1_14 hc_X12_acts_256 rfl) (u1_15 hc_X12_acts_256 rfl) rfl) rfl) rfl
theorem hc_X12_acts_272 : ((bL cX12_acts).drop 272).take 18 = [177] := by decide +kernel
theorem dX12_acts_272 : decode cX12_acts 272 = .ok (.return_, 1) := o_177 (u1_0 hc_X12_acts_272 rfl) rfl
theorem hc_X12_hasSecond_0 : ((bL cX12_hasSecond).drop 0).take 18 = [26, 6, 159, 0, 20, 26, 7, 159, 0, 15, 26, 16, 7, 159, 0, 9, 26, 16] := by decide +kernel
theorem dX12_hasSecond_0 : decode cX12_hasSecond 0 = .ok (.iload_n 0, 1) := o_26 (u1_0 hc_X12_hasSecond_0 rfl) rfl
theorem dX12_hasSecond_1 : decode cX12_hasSecond 1 = .ok (.iconst 3, 1) := o_6 (u1_1 hc_X12_hasSecond_0 rfl) rfl
theorem dX12_hasSecond_2 : decode cX12_hasSecond 2 = .ok (.if_icmp .eq 20, 3) := o_159 (u1_2 hc_X12_hasSecond_0 rfl) (s2_d (u2_d (u1_3 hc_X12_hasSecond_0 rfl) (u1_4 hc_X12_hasSecond_0 rfl) rfl) rfl) rfl
theorem dX12_hasSecond_5 : decode cX12_hasSecond 5 = .ok (.iload_n 0, 1) := o_26 (u1_5 hc_X12_hasSecond_0 rfl) rfl
theorem dX12_hasSecond_6 : decode cX12_hasSecond 6 = .ok (.iconst 4, 1) := o_7 (u1_6 hc_X12_hasSecond_0 rfl) rfl
theorem dX12_hasSecond_7 : decode cX12_hasSecond 7 = .ok (.if_icmp .eq 15, 3) := o_159 (u1_7 hc_X12_hasSecond_0 rfl) (s2_d (u2_d (u1_8 hc_X12_hasSecond_0 rfl) (u1_9 hc_X12_hasSecond_0 rfl) rfl) rfl) rfl
theorem dX12_hasSecond_10 : decode cX12_hasSecond 10 = .ok (.iload_n 0, 1) := o_26 (u1_10 hc_X12_hasSecond_0 rfl) rfl
theorem dX12_hasSecond_11 : decode cX12_hasSecond 11 = .ok (.bipush 7, 2) := o_16 (u1_11 hc_X12_hasSecond_0 rfl) (s1_d (u1_12 hc_X12_hasSecond_0 rfl) rfl) rfl
theorem dX12_hasSecond_13 : decode cX12_hasSecond 13 = .ok (.if_icmp .eq 9, 3) := o_159 (u1_13 hc_X12_hasSecond_0 rfl) (s2_d (u2_d (u1_14 hc_X12_hasSecond_0 rfl) (u1_15 hc_X12_hasSecond_0 rfl) rfl) rfl) rfl
theorem hc_X12_hasSecond_16 : ((bL cX12_hasSecond).drop 16).take 18 = [26, 16, 8, 160, 0, 7, 4, 167, 0, 4, 3, 172] := by decide +kernel
theorem dX12_hasSecond_16 : decode cX12_hasSecond 16 = .ok (.iload_n 0, 1) := o_26 (u1_0 hc_X12_hasSecond_16 rfl) rfl
theorem dX12_hasSecond_17 : decode cX12_hasSecond 17 = .ok (.bipush 8, 2) := o_16 (u1_1 hc_X12_hasSecond_16 rfl) (s1_d (u1_2 hc_X12_hasSecond_16 rfl) rfl) rfl
theorem dX12_hasSecond_19 : decode cX12_hasSecond 19 = .ok (.if_icmp .ne 7, 3) := o_160 (u1_3 hc_X12_hasSecond_16 rfl) (s2_d (u2_d (u1_4 hc_X12_hasSecond_16 rfl) (u1_5 hc_X12_hasSecond_16 rfl) rfl) rfl) rfl
theorem dX12_hasSecond_22 : decode cX12_hasSecond 22 = .ok (.iconst 1, 1) := o_4 (u1_6 hc_X12_hasSecond_16 rfl) rfl
theorem dX12_hasSecond_23 : decode cX12_hasSecond 23 = .ok (.goto 4, 3) := o_167 (u1_7 hc_X12_hasSecond_16 rfl) (s2_d (u2_d (u1_8 hc_X12_hasSecond_16 rfl) (u1_9 hc_X12_hasSecond_16 rfl) rfl) rfl) rfl
theorem dX12_hasSecond_26 : decode cX12_hasSecond 26 = .ok (.iconst 0, 1) := o_3 (u1_10 hc_X12_hasSecond_16 rfl) rfl
theorem dX12_hasSecond_27 : decode cX12_hasSecond 27 = .ok (.ireturn, 1) := o_172 (u1_11 hc_X12_hasSecond_16 rfl) rfl
theorem hc_X12_act_0 : ((bL cX12_act).drop 0).take 18 = [27, 133, 9, 20, 1, 129, 184, 0, 166, 153, 0, 54, 27, 154, 0, 15, 28, 133] := by decide +kernel
theorem dX12_act_0 : decode cX12_act 0 = .ok (.iload_n 1, 1) := o_27 (u1_0 hc_X12_act_0 rfl) rfl
theorem dX12_act_1 : decode cX12_act 1 = .ok (.i2l, 1) := o_133 (u1_1 hc_X12_act_0 rfl) rfl
theorem dX12_act_2 : decode cX12_act 2 = .ok (.lconst 0, 1) := o_9 (u1_2 hc_X12_act_0 rfl) rfl
theorem dX12_act_3 : decode cX12_act 3 = .ok (.ldc2_w 385, 3) := o_20 (u1_3 hc_X12_act_0 rfl) (u2_d (u1_4 hc_X12_act_0 rfl) (u1_5 hc_X12_act_0 rfl) rfl) rfl
theorem dX12_act_6 : decode cX12_act 6 = .ok (.invokestatic 166, 3) := o_184 (u1_6 hc_X12_act_0 rfl) (u2_d (u1_7 hc_X12_act_0 rfl) (u1_8 hc_X12_act_0 rfl) rfl) rfl
theorem dX12_act_9 : decode cX12_act 9 = .ok (.ifCond .eq 54, 3) := o_153 (u1_9 hc_X12_act_0 rfl) (s2_d (u2_d (u1_10 hc_X12_act_0 rfl) (u1_11 hc_X12_act_0 rfl) rfl) rfl) rfl
theorem dX12_act_12 : decode cX12_act 12 = .ok (.iload_n 1, 1) := o_27 (u1_12 hc_X12_act_0 rfl) rfl
theorem dX12_act_13 : decode cX12_act 13 = .ok (.ifCond .ne 15, 3) := o_154 (u1_13 hc_X12_act_0 rfl) (s2_d (u2_d (u1_14 hc_X12_act_0 rfl) (u1_15 hc_X12_act_0 rfl) rfl) rfl) rfl
theorem hc_X12_act_16 : ((bL cX12_act).drop 16).take 18 = [28, 133, 9, 20, 0, 197, 184, 0, 166, 153, 0, 38, 27, 133, 10, 20, 1, 131] := by decide +kernel
theorem dX12_act_16 : decode cX12_act 16 = .ok (.iload_n 2, 1) := o_28 (u1_0 hc_X12_act_16 rfl) rfl
theorem dX12_act_17 : decode cX12_act 17 = .ok (.i2l, 1) := o_133 (u1_1 hc_X12_act_16 rfl) rfl
theorem dX12_act_18 : decode cX12_act 18 = .ok (.lconst 0, 1) := o_9 (u1_2 hc_X12_act_16 rfl) rfl
theorem dX12_act_19 : decode cX12_act 19 = .ok (.ldc2_w 197, 3) := o_20 (u1_3 hc_X12_act_16 rfl) (u2_d (u1_4 hc_X12_act_16 rfl) (u1_5 hc_X12_act_16 rfl) rfl) rfl
theorem dX12_act_22 : decode cX12_act 22 = .ok (.invokestatic 166, 3) := o_184 (u1_6 hc_X12_act_16 rfl) (u2_d (u1_7 hc_X12_act_16 rfl) (u1_8 hc_X12_act_16 rfl) rfl) rfl
theorem dX12_act_25 : decode cX12_act 25 = .ok (.ifCond .eq 38, 3) := o_153 (u1_9 hc_X12_act_16 rfl) (s2_d (u2_d (u1_10 hc_X12_act_16 rfl) (u1_11 hc_X12_act_16 rfl) rfl) rfl) rfl
theorem dX12_act_28 : decode cX12_act 28 = .ok (.iload_n 1, 1) := o_27 (u1_12 hc_X12_act_16 rfl) rfl
theorem dX12_act_29 : decode cX12_act 29 = .ok (.i2l, 1) := o_133 (u1_13 hc_X12_act_16 rfl) rfl
theorem dX12_act_30 : decode cX12_act 30 = .ok (.lconst 1, 1) := o_10 (u1_14 hc_X12_act_16 rfl) rfl
theorem dX12_act_31 : decode cX12_act 31 = .ok (.ldc2_w 387, 3) := o_20 (u1_15 hc_X12_act_16 rfl) (u2_d (u1_16 hc_X12_act_16 rfl) (u1_17 hc_X12_act_16 rfl) rfl) rfl
theorem hc_X12_act_32 : ((bL cX12_act).drop 32).take 18 = [1, 131, 184, 0, 166, 153, 0, 11, 42, 28, 182, 0, 180, 153, 0, 18, 27, 184] := by decide +kernel
theorem dX12_act_34 : decode cX12_act 34 = .ok (.invokestatic 166, 3) := o_184 (u1_2 hc_X12_act_32 rfl) (u2_d (u1_3 hc_X12_act_32 rfl) (u1_4 hc_X12_act_32 rfl) rfl) rfl
theorem dX12_act_37 : decode cX12_act 37 = .ok (.ifCond .eq 11, 3) := o_153 (u1_5 hc_X12_act_32 rfl) (s2_d (u2_d (u1_6 hc_X12_act_32 rfl) (u1_7 hc_X12_act_32 rfl) rfl) rfl) rfl
theorem dX12_act_40 : decode cX12_act 40 = .ok (.aload_n 0, 1) := o_42 (u1_8 hc_X12_act_32 rfl) rfl
theorem dX12_act_41 : decode cX12_act 41 = .ok (.iload_n 2, 1) := o_28 (u1_9 hc_X12_act_32 rfl) rfl
theorem dX12_act_42 : decode cX12_act 42 = .ok (.invokevirtual 180, 3) := o_182 (u1_10 hc_X12_act_32 rfl) (u2_d (u1_11 hc_X12_act_32 rfl) (u1_12 hc_X12_act_32 rfl) rfl) rfl
theorem dX12_act_45 : decode cX12_act 45 = .ok (.ifCond .eq 18, 3) := o_153 (u1_13 hc_X12_act_32 rfl) (s2_d (u2_d (u1_14 hc_X12_act_32 rfl) (u1_15 hc_X12_act_32 rfl) rfl) rfl) rfl
theorem hc_X12_act_48 : ((bL cX12_act).drop 48).take 18 = [27, 184, 1, 133, 153, 0, 13, 42, 29, 182, 0, 180, 154, 0, 5, 2, 172, 42] := by decide +kernel
theorem dX12_act_48 : decode cX12_act 48 = .ok (.iload_n 1, 1) := o_27 (u1_0 hc_X12_act_48 rfl) rfl
theorem dX12_act_49 : decode cX12_act 49 = .ok (.invokestatic 389, 3) := o_184 (u1_1 hc_X12_act_48 rfl) (u2_d (u1_2 hc_X12_act_48 rfl) (u1_3 hc_X12_act_48 rfl) rfl) rfl
theorem dX12_act_52 : decode cX12_act 52 = .ok (.ifCond .eq 13, 3) := o_153 (u1_4 hc_X12_act_48 rfl) (s2_d (u2_d (u1_5 hc_X12_act_48 rfl) (u1_6 hc_X12_act_48 rfl) rfl) rfl) rfl
theorem dX12_act_55 : decode cX12_act 55 = .ok (.aload_n 0, 1) := o_42 (u1_7 hc_X12_act_48 rfl) rfl
theorem dX12_act_56 : decode cX12_act 56 = .ok (.iload_n 3, 1) := o_29 (u1_8 hc_X12_act_48 rfl) rfl
theorem dX12_act_57 : decode cX12_act 57 = .ok (.invokevirtual 180, 3) := o_182 (u1_9 hc_X12_act_48 rfl) (u2_d (u1_10 hc_X12_act_48 rfl) (u1_11 hc_X12_act_48 rfl) rfl) rfl
theorem dX12_act_60 : decode cX12_act 60 = .ok (.ifCond .ne 5, 3) := o_154 (u1_12 hc_X12_act_48 rfl) (s2_d (u2_d (u1_13 hc_X12_act_48 rfl) (u1_14 hc_X12_act_48 rfl) rfl) rfl) rfl
theorem dX12_act_63 : decode cX12_act 63 = .ok (.iconst (-1), 1) := o_2 (u1_15 hc_X12_act_48 rfl) rfl
theorem hc_X12_act_64 : ((bL cX12_act).drop 64).take 18 = [172, 42, 180, 0, 155, 16, 247, 159, 0, 15, 42, 180, 1, 35, 16, 100, 160, 0] := by decide +kernel
theorem dX12_act_64 : decode cX12_act 64 = .ok (.ireturn, 1) := o_172 (u1_0 hc_X12_act_64 rfl) rfl
theorem dX12_act_65 : decode cX12_act 65 = .ok (.aload_n 0, 1) := o_42 (u1_1 hc_X12_act_64 rfl) rfl
theorem dX12_act_66 : decode cX12_act 66 = .ok (.getfield 155, 3) := o_180 (u1_2 hc_X12_act_64 rfl) (u2_d (u1_3 hc_X12_act_64 rfl) (u1_4 hc_X12_act_64 rfl) rfl) rfl
theorem dX12_act_69 : decode cX12_act 69 = .ok (.bipush (-9), 2) := o_16 (u1_5 hc_X12_act_64 rfl) (s1_d (u1_6 hc_X12_act_64 rfl) rfl) rfl
theorem dX12_act_71 : decode cX12_act 71 = .ok (.if_icmp .eq 15, 3) := o_159 (u1_7 hc_X12_act_64 rfl) (s2_d (u2_d (u1_8 hc_X12_act_64 rfl) (u1_9 hc_X12_act_64 rfl) rfl) rfl) rfl
theorem dX12_act_74 : decode cX12_act 74 = .ok (.aload_n 0, 1) := o_42 (u1_10 hc_X12_act_64 rfl) rfl
theorem dX12_act_75 : decode cX12_act 75 = .ok (.getfield 291, 3) := o_180 (u1_11 hc_X12_act_64 rfl) (u2_d (u1_12 hc_X12_act_64 rfl) (u1_13 hc_X12_act_64 rfl) rfl) rfl
theorem dX12_act_78 : decode cX12_act 78 = .ok (.bipush 100, 2) := o_16 (u1_14 hc_X12_act_64 rfl) (s1_d (u1_15 hc_X12_act_64 rfl) rfl) rfl
theorem hc_X12_act_80 : ((bL cX12_act).drop 80).take 18 = [160, 0, 6, 16, 254, 172, 42, 180, 0, 155, 16, 247, 160, 0, 6, 16, 251, 172] := by decide +kernel
theorem dX12_act_80 : decode cX12_act 80 = .ok (.if_icmp .ne 6, 3) := o_160 (u1_0 hc_X12_act_80 rfl) (s2_d (u2_d (u1_1 hc_X12_act_80 rfl) (u1_2 hc_X12_act_80 rfl) rfl) rfl) rfl
theorem dX12_act_83 : decode cX12_act 83 = .ok (.bipush (-2), 2) := o_16 (u1_3 hc_X12_act_80 rfl) (s1_d (u1_4 hc_X12_act_80 rfl) rfl) rfl
theorem dX12_act_85 : decode cX12_act 85 = .ok (.ireturn, 1) := o_172 (u1_5 hc_X12_act_80 rfl) rfl
theorem dX12_act_86 : decode cX12_act 86 = .ok (.aload_n 0, 1) := o_42 (u1_6 hc_X12_act_80 rfl) rfl
theorem dX12_act_87 : decode cX12_act 87 = .ok (.getfield 155, 3) := o_180 (u1_7 hc_X12_act_80 rfl) (u2_d (u1_8 hc_X12_act_80 rfl) (u1_9 hc_X12_act_80 rfl) rfl) rfl
theorem dX12_act_90 : decode cX12_act 90 = .ok (.bipush (-9), 2) := o_16 (u1_10 hc_X12_act_80 rfl) (s1_d (u1_11 hc_X12_act_80 rfl) rfl) rfl
theorem dX12_act_92 : decode cX12_act 92 = .ok (.if_icmp .ne 6, 3) := o_160 (u1_12 hc_X12_act_80 rfl) (s2_d (u2_d (u1_13 hc_X12_act_80 rfl) (u1_14 hc_X12_act_80 rfl) rfl) rfl) rfl
theorem dX12_act_95 : decode cX12_act 95 = .ok (.bipush (-5), 2) := o_16 (u1_15 hc_X12_act_80 rfl) (s1_d (u1_16 hc_X12_act_80 rfl) rfl) rfl
theorem hc_X12_act_96 : ((bL cX12_act).drop 96).take 18 = [251, 172, 42, 182, 1, 136, 42, 182, 1, 139, 42, 27, 28, 29, 182, 1, 142, 54] := by decide +kernel
theorem dX12_act_97 : decode cX12_act 97 = .ok (.ireturn, 1) := o_172 (u1_1 hc_X12_act_96 rfl) rfl
theorem dX12_act_98 : decode cX12_act 98 = .ok (.aload_n 0, 1) := o_42 (u1_2 hc_X12_act_96 rfl) rfl
theorem dX12_act_99 : decode cX12_act 99 = .ok (.invokevirtual 392, 3) := o_182 (u1_3 hc_X12_act_96 rfl) (u2_d (u1_4 hc_X12_act_96 rfl) (u1_5 hc_X12_act_96 rfl) rfl) rfl
theorem dX12_act_102 : decode cX12_act 102 = .ok (.aload_n 0, 1) := o_42 (u1_6 hc_X12_act_96 rfl) rfl
theorem dX12_act_103 : decode cX12_act 103 = .ok (.invokevirtual 395, 3) := o_182 (u1_7 hc_X12_act_96 rfl) (u2_d (u1_8 hc_X12_act_96 rfl) (u1_9 hc_X12_act_96 rfl) rfl) rfl
theorem dX12_act_106 : decode cX12_act 106 = .ok (.aload_n 0, 1) := o_42 (u1_10 hc_X12_act_96 rfl) rfl
theorem dX12_act_107 : decode cX12_act 107 = .ok (.iload_n 1, 1) := o_27 (u1_11 hc_X12_act_96 rfl) rfl
theorem dX12_act_108 : decode cX12_act 108 = .ok (.iload_n 2, 1) := o_28 (u1_12 hc_X12_act_96 rfl) rfl
theorem dX12_act_109 : decode cX12_act 109 = .ok (.iload_n 3, 1) := o_29 (u1_13 hc_X12_act_96 rfl) rfl
theorem dX12_act_110 : decode cX12_act 110 = .ok (.invokevirtual 398, 3) := o_182 (u1_14 hc_X12_act_96 rfl) (u2_d (u1_15 hc_X12_act_96 rfl) (u1_16 hc_X12_act_96 rfl) rfl) rfl
theorem hc_X12_act_112 : ((bL cX12_act).drop 112).take 18 = [142, 54, 4, 21, 4, 158, 0, 6, 21, 4, 172, 3, 54, 5, 21, 5, 16, 30] := by decide +kernel
theorem dX12_act_113 : decode cX12_act 113 = .ok (.istore 4, 2) := o_54 (u1_1 hc_X12_act_112 rfl) (u1_2 hc_X12_act_112 rfl) rfl
theorem dX12_act_115 : decode cX12_act 115 = .ok (.iload 4, 2) := o_21 (u1_3 hc_X12_act_112 rfl) (u1_4 hc_X12_act_112 rfl) rfl
theorem dX12_act_117 : decode cX12_act 117 = .ok (.ifCond .le 6, 3) := o_158 (u1_5 hc_X12_act_112 rfl) (s2_d (u2_d (u1_6 hc_X12_act_112 rfl) (u1_7 hc_X12_act_112 rfl) rfl) rfl) rfl
theorem dX12_act_120 : decode cX12_act 120 = .ok (.iload 4, 2) := o_21 (u1_8 hc_X12_act_112 rfl) (u1_9 hc_X12_act_112 rfl) rfl
theorem dX12_act_122 : decode cX12_act 122 = .ok (.ireturn, 1) := o_172 (u1_10 hc_X12_act_112 rfl) rfl
theorem dX12_act_123 : decode cX12_act 123 = .ok (.iconst 0, 1) := o_3 (u1_11 hc_X12_act_112 rfl) rfl
theorem dX12_act_124 : decode cX12_act 124 = .ok (.istore 5, 2) := o_54 (u1_12 hc_X12_act_112 rfl) (u1_13 hc_X12_act_112 rfl) rfl
theorem dX12_act_126 : decode cX12_act 126 = .ok (.iload 5, 2) := o_21 (u1_14 hc_X12_act_112 rfl) (u1_15 hc_X12_act_112 rfl) rfl
theorem hc_X12_act_128 : ((bL cX12_act).drop 128).take 18 = [16, 30, 162, 0, 97, 42, 180, 0, 65, 16, 30, 42, 180, 1, 35, 104, 21, 5] := by decide +kernel
theorem dX12_act_128 : decode cX12_act 128 = .ok (.bipush 30, 2) := o_16 (u1_0 hc_X12_act_128 rfl) (s1_d (u1_1 hc_X12_act_128 rfl) rfl) rfl
theorem dX12_act_130 : decode cX12_act 130 = .ok (.if_icmp .ge 97, 3) := o_162 (u1_2 hc_X12_act_128 rfl) (s2_d (u2_d (u1_3 hc_X12_act_128 rfl) (u1_4 hc_X12_act_128 rfl) rfl) rfl) rfl
theorem dX12_act_133 : decode cX12_act 133 = .ok (.aload_n 0, 1) := o_42 (u1_5 hc_X12_act_128 rfl) rfl
theorem dX12_act_134 : decode cX12_act 134 = .ok (.getfield 65, 3) := o_180 (u1_6 hc_X12_act_128 rfl) (u2_d (u1_7 hc_X12_act_128 rfl) (u1_8 hc_X12_act_128 rfl) rfl) rfl
theorem dX12_act_137 : decode cX12_act 137 = .ok (.bipush 30, 2) := o_16 (u1_9 hc_X12_act_128 rfl) (s1_d (u1_10 hc_X12_act_128 rfl) rfl) rfl
theorem dX12_act_139 : decode cX12_act 139 = .ok (.aload_n 0, 1) := o_42 (u1_11 hc_X12_act_128 rfl) rfl
theorem dX12_act_140 : decode cX12_act 140 = .ok (.getfield 291, 3) := o_180 (u1_12 hc_X12_act_128 rfl) (u2_d (u1_13 hc_X12_act_128 rfl) (u1_14 hc_X12_act_128 rfl) rfl) rfl
theorem dX12_act_143 : decode cX12_act 143 = .ok (.imul, 1) := o_104 (u1_15 hc_X12_act_128 rfl) rfl
theorem hc_X12_act_144 : ((bL cX12_act).drop 144).take 18 = [21, 5, 96, 42, 180, 0, 50, 21, 5, 46, 79, 42, 180, 0, 68, 16, 30, 42] := by decide +kernel
theorem dX12_act_144 : decode cX12_act 144 = .ok (.iload 5, 2) := o_21 (u1_0 hc_X12_act_144 rfl) (u1_1 hc_X12_act_144 rfl) rfl
theorem dX12_act_146 : decode cX12_act 146 = .ok (.iadd, 1) := o_96 (u1_2 hc_X12_act_144 rfl) rfl
theorem dX12_act_147 : decode cX12_act 147 = .ok (.aload_n 0, 1) := o_42 (u1_3 hc_X12_act_144 rfl) rfl
theorem dX12_act_148 : decode cX12_act 148 = .ok (.getfield 50, 3) := o_180 (u1_4 hc_X12_act_144 rfl) (u2_d (u1_5 hc_X12_act_144 rfl) (u1_6 hc_X12_act_144 rfl) rfl) rfl
theorem dX12_act_151 : decode cX12_act 151 = .ok (.iload 5, 2) := o_21 (u1_7 hc_X12_act_144 rfl) (u1_8 hc_X12_act_144 rfl) rfl
theorem dX12_act_153 : decode cX12_act 153 = .ok (.iaload, 1) := o_46 (u1_9 hc_X12_act_144 rfl) rfl
theorem dX12_act_154 : decode cX12_act 154 = .ok (.iastore, 1) := o_79 (u1_10 hc_X12_act_144 rfl) rfl
theorem dX12_act_155 : decode cX12_act 155 = .ok (.aload_n 0, 1) := o_42 (u1_11 hc_X12_act_144 rfl) rfl
theorem dX12_act_156 : decode cX12_act 156 = .ok (.getfield 68, 3) := o_180 (u1_12 hc_X12_act_144 rfl) (u2_d (u1_13 hc_X12_act_144 rfl) (u1_14 hc_X12_act_144 rfl) rfl) rfl
theorem dX12_act_159 : decode cX12_act 159 = .ok (.bipush 30, 2) := o_16 (u1_15 hc_X12_act_144 rfl) (s1_d (u1_16 hc_X12_act_144 rfl) rfl) rfl
theorem hc_X12_act_160 : ((bL cX12_act).drop 160).take 18 = [30, 42, 180, 1, 35, 104, 21, 5, 96, 42, 180, 0, 53, 21, 5, 46, 79, 42] := by decide +kernel
theorem dX12_act_161 : decode cX12_act 161 = .ok (.aload_n 0, 1) := o_42 (u1_1 hc_X12_act_160 rfl) rfl
theorem dX12_act_162 : decode cX12_act 162 = .ok (.getfield 291, 3) := o_180 (u1_2 hc_X12_act_160 rfl) (u2_d (u1_3 hc_X12_act_160 rfl) (u1_4 hc_X12_act_160 rfl) rfl) rfl
theorem dX12_act_165 : decode cX12_act 165 = .ok (.imul, 1) := o_104 (u1_5 hc_X12_act_160 rfl) rfl
theorem dX12_act_166 : decode cX12_act 166 = .ok (.iload 5, 2) := o_21 (u1_6 hc_X12_act_160 rfl) (u1_7 hc_X12_act_160 rfl) rfl
theorem dX12_act_168 : decode cX12_act 168 = .ok (.iadd, 1) := o_96 (u1_8 hc_X12_act_160 rfl) rfl
theorem dX12_act_169 : decode cX12_act 169 = .ok (.aload_n 0, 1) := o_42 (u1_9 hc_X12_act_160 rfl) rfl
theorem dX12_act_170 : decode cX12_act 170 = .ok (.getfield 53, 3) := o_180 (u1_10 hc_X12_act_160 rfl) (u2_d (u1_11 hc_X12_act_160 rfl) (u1_12 hc_X12_act_160 rfl) rfl) rfl
theorem dX12_act_173 : decode cX12_act 173 = .ok (.iload 5, 2) := o_21 (u1_13 hc_X12_act_160 rfl) (u1_14 hc_X12_act_160 rfl) rfl
theorem dX12_act_175 : decode cX12_act 175 = .ok (.iaload, 1) := o_46 (u1_15 hc_X12_act_160 rfl) rfl
theorem hc_X12_act_176 : ((bL cX12_act).drop 176).take 18 = [79, 42, 180, 0, 71, 16, 30, 42, 180, 1, 35, 104, 21, 5, 96, 42, 180, 0] := by decide +kernel
theorem dX12_act_176 : decode cX12_act 176 = .ok (.iastore, 1) := o_79 (u1_0 hc_X12_act_176 rfl) rfl
theorem dX12_act_177 : decode cX12_act 177 = .ok (.aload_n 0, 1) := o_42 (u1_1 hc_X12_act_176 rfl) rfl
theorem dX12_act_178 : decode cX12_act 178 = .ok (.getfield 71, 3) := o_180 (u1_2 hc_X12_act_176 rfl) (u2_d (u1_3 hc_X12_act_176 rfl) (u1_4 hc_X12_act_176 rfl) rfl) rfl
theorem dX12_act_181 : decode cX12_act 181 = .ok (.bipush 30, 2) := o_16 (u1_5 hc_X12_act_176 rfl) (s1_d (u1_6 hc_X12_act_176 rfl) rfl) rfl
theorem dX12_act_183 : decode cX12_act 183 = .ok (.aload_n 0, 1) := o_42 (u1_7 hc_X12_act_176 rfl) rfl
theorem dX12_act_184 : decode cX12_act 184 = .ok (.getfield 291, 3) := o_180 (u1_8 hc_X12_act_176 rfl) (u2_d (u1_9 hc_X12_act_176 rfl) (u1_10 hc_X12_act_176 rfl) rfl) rfl
theorem dX12_act_187 : decode cX12_act 187 = .ok (.imul, 1) := o_104 (u1_11 hc_X12_act_176 rfl) rfl
theorem dX12_act_188 : decode cX12_act 188 = .ok (.iload 5, 2) := o_21 (u1_12 hc_X12_act_176 rfl) (u1_13 hc_X12_act_176 rfl) rfl
theorem dX12_act_190 : decode cX12_act 190 = .ok (.iadd, 1) := o_96 (u1_14 hc_X12_act_176 rfl) rfl
theorem dX12_act_191 : decode cX12_act 191 = .ok (.aload_n 0, 1) := o_42 (u1_15 hc_X12_act_176 rfl) rfl
theorem hc_X12_act_192 : ((bL cX12_act).drop 192).take 18 = [180, 0, 56, 21, 5, 51, 84, 42, 180, 0, 74, 16, 30, 42, 180, 1, 35, 104] := by decide +kernel
theorem dX12_act_192 : decode cX12_act 192 = .ok (.getfield 56, 3) := o_180 (u1_0 hc_X12_act_192 rfl) (u2_d (u1_1 hc_X12_act_192 rfl) (u1_2 hc_X12_act_192 rfl) rfl) rfl
theorem dX12_act_195 : decode cX12_act 195 = .ok (.iload 5, 2) := o_21 (u1_3 hc_X12_act_192 rfl) (u1_4 hc_X12_act_192 rfl) rfl
theorem dX12_act_197 : decode cX12_act 197 = .ok (.baload, 1) := o_51 (u1_5 hc_X12_act_192 rfl) rfl
theorem dX12_act_198 : decode cX12_act 198 = .ok (.bastore, 1) := o_84 (u1_6 hc_X12_act_192 rfl) rfl
theorem dX12_act_199 : decode cX12_act 199 = .ok (.aload_n 0, 1) := o_42 (u1_7 hc_X12_act_192 rfl) rfl
theorem dX12_act_200 : decode cX12_act 200 = .ok (.getfield 74, 3) := o_180 (u1_8 hc_X12_act_192 rfl) (u2_d (u1_9 hc_X12_act_192 rfl) (u1_10 hc_X12_act_192 rfl) rfl) rfl
theorem dX12_act_203 : decode cX12_act 203 = .ok (.bipush 30, 2) := o_16 (u1_11 hc_X12_act_192 rfl) (s1_d (u1_12 hc_X12_act_192 rfl) rfl) rfl
theorem dX12_act_205 : decode cX12_act 205 = .ok (.aload_n 0, 1) := o_42 (u1_13 hc_X12_act_192 rfl) rfl
theorem dX12_act_206 : decode cX12_act 206 = .ok (.getfield 291, 3) := o_180 (u1_14 hc_X12_act_192 rfl) (u2_d (u1_15 hc_X12_act_192 rfl) (u1_16 hc_X12_act_192 rfl) rfl) rfl
theorem hc_X12_act_208 : ((bL cX12_act).drop 208).take 18 = [35, 104, 21, 5, 96, 42, 180, 0, 59, 21, 5, 51, 84, 132, 5, 1, 167, 255] := by decide +kernel
theorem dX12_act_209 : decode cX12_act 209 = .ok (.imul, 1) := o_104 (u1_1 hc_X12_act_208 rfl) rfl
theorem dX12_act_210 : decode cX12_act 210 = .ok (.iload 5, 2) := o_21 (u1_2 hc_X12_act_208 rfl) (u1_3 hc_X12_act_208 rfl) rfl
theorem dX12_act_212 : decode cX12_act 212 = .ok (.iadd, 1) := o_96 (u1_4 hc_X12_act_208 rfl) rfl
theorem dX12_act_213 : decode cX12_act 213 = .ok (.aload_n 0, 1) := o_42 (u1_5 hc_X12_act_208 rfl) rfl
theorem dX12_act_214 : decode cX12_act 214 = .ok (.getfield 59, 3) := o_180 (u1_6 hc_X12_act_208 rfl) (u2_d (u1_7 hc_X12_act_208 rfl) (u1_8 hc_X12_act_208 rfl) rfl) rfl
theorem dX12_act_217 : decode cX12_act 217 = .ok (.iload 5, 2) := o_21 (u1_9 hc_X12_act_208 rfl) (u1_10 hc_X12_act_208 rfl) rfl
theorem dX12_act_219 : decode cX12_act 219 = .ok (.baload, 1) := o_51 (u1_11 hc_X12_act_208 rfl) rfl
theorem dX12_act_220 : decode cX12_act 220 = .ok (.bastore, 1) := o_84 (u1_12 hc_X12_act_208 rfl) rfl
theorem dX12_act_221 : decode cX12_act 221 = .ok (.iinc 5 1, 3) := o_132 (u1_13 hc_X12_act_208 rfl) (u1_14 hc_X12_act_208 rfl) (s1_d (u1_15 hc_X12_act_208 rfl) rfl) rfl
theorem hc_X12_act_224 : ((bL cX12_act).drop 224).take 18 = [167, 255, 158, 42, 180, 0, 62, 6, 42, 180, 1, 35, 104, 27, 79, 42, 180, 0] := by decide +kernel
theorem dX12_act_224 : decode cX12_act 224 = .ok (.goto (-98), 3) := o_167 (u1_0 hc_X12_act_224 rfl) (s2_d (u2_d (u1_1 hc_X12_act_224 rfl) (u1_2 hc_X12_act_224 rfl) rfl) rfl) rfl
theorem dX12_act_227 : decode cX12_act 227 = .ok (.aload_n 0, 1) := o_42 (u1_3 hc_X12_act_224 rfl) rfl
theorem dX12_act_228 : decode cX12_act 228 = .ok (.getfield 62, 3) := o_180 (u1_4 hc_X12_act_224 rfl) (u2_d (u1_5 hc_X12_act_224 rfl) (u1_6 hc_X12_act_224 rfl) rfl) rfl
theorem dX12_act_231 : decode cX12_act 231 = .ok (.iconst 3, 1) := o_6 (u1_7 hc_X12_act_224 rfl) rfl
theorem dX12_act_232 : decode cX12_act 232 = .ok (.aload_n 0, 1) := o_42 (u1_8 hc_X12_act_224 rfl) rfl
theorem dX12_act_233 : decode cX12_act 233 = .ok (.getfield 291, 3) := o_180 (u1_9 hc_X12_act_224 rfl) (u2_d (u1_10 hc_X12_act_224 rfl) (u1_11 hc_X12_act_224 rfl) rfl) rfl
theorem dX12_act_236 : decode cX12_act 236 = .ok (.imul, 1) := o_104 (u1_12 hc_X12_act_224 rfl) rfl
theorem dX12_act_237 : decode cX12_act 237 = .ok (.iload_n 1, 1) := o_27 (u1_13 hc_X12_act_224 rfl) rfl
theorem dX12_act_238 : decode cX12_act 238 = .ok (.iastore, 1) := o_79 (u1_14 hc_X12_act_224 rfl) rfl
theorem dX12_act_239 : decode cX12_act 239 = .ok (.aload_n 0, 1) := o_42 (u1_15 hc_X12_act_224 rfl) rfl
theorem hc_X12_act_240 : ((bL cX12_act).drop 240).take 18 = [180, 0, 62, 6, 42, 180, 1, 35, 104, 4, 96, 27, 16, 11, 162, 0, 7, 28] := by decide +kernel
theorem dX12_act_240 : decode cX12_act 240 = .ok (.getfield 62, 3) := o_180 (u1_0 hc_X12_act_240 rfl) (u2_d (u1_1 hc_X12_act_240 rfl) (u1_2 hc_X12_act_240 rfl) rfl) rfl
theorem dX12_act_243 : decode cX12_act 243 = .ok (.iconst 3, 1) := o_6 (u1_3 hc_X12_act_240 rfl) rfl
theorem dX12_act_244 : decode cX12_act 244 = .ok (.aload_n 0, 1) := o_42 (u1_4 hc_X12_act_240 rfl) rfl
theorem dX12_act_245 : decode cX12_act 245 = .ok (.getfield 291, 3) := o_180 (u1_5 hc_X12_act_240 rfl) (u2_d (u1_6 hc_X12_act_240 rfl) (u1_7 hc_X12_act_240 rfl) rfl) rfl
theorem dX12_act_248 : decode cX12_act 248 = .ok (.imul, 1) := o_104 (u1_8 hc_X12_act_240 rfl) rfl
theorem dX12_act_249 : decode cX12_act 249 = .ok (.iconst 1, 1) := o_4 (u1_9 hc_X12_act_240 rfl) rfl
theorem dX12_act_250 : decode cX12_act 250 = .ok (.iadd, 1) := o_96 (u1_10 hc_X12_act_240 rfl) rfl
theorem dX12_act_251 : decode cX12_act 251 = .ok (.iload_n 1, 1) := o_27 (u1_11 hc_X12_act_240 rfl) rfl
theorem dX12_act_252 : decode cX12_act 252 = .ok (.bipush 11, 2) := o_16 (u1_12 hc_X12_act_240 rfl) (s1_d (u1_13 hc_X12_act_240 rfl) rfl) rfl
theorem dX12_act_254 : decode cX12_act 254 = .ok (.if_icmp .ge 7, 3) := o_162 (u1_14 hc_X12_act_240 rfl) (s2_d (u2_d (u1_15 hc_X12_act_240 rfl) (u1_16 hc_X12_act_240 rfl) rfl) rfl) rfl
theorem hc_X12_act_256 : ((bL cX12_act).drop 256).take 18 = [7, 28, 167, 0, 4, 3, 79, 42, 180, 0, 62, 6, 42, 180, 1, 35, 104, 5] := by decide +kernel
theorem dX12_act_257 : decode cX12_act 257 = .ok (.iload_n 2, 1) := o_28 (u1_1 hc_X12_act_256 rfl) rfl
theorem dX12_act_258 : decode cX12_act 258 = .ok (.goto 4, 3) := o_167 (u1_2 hc_X12_act_256 rfl) (s2_d (u2_d (u1_3 hc_X12_act_256 rfl) (u1_4 hc_X12_act_256 rfl) rfl) rfl) rfl
theorem dX12_act_261 : decode cX12_act 261 = .ok (.iconst 0, 1) := o_3 (u1_5 hc_X12_act_256 rfl) rfl
theorem dX12_act_262 : decode cX12_act 262 = .ok (.iastore, 1) := o_79 (u1_6 hc_X12_act_256 rfl) rfl
theorem dX12_act_263 : decode cX12_act 263 = .ok (.aload_n 0, 1) := o_42 (u1_7 hc_X12_act_256 rfl) rfl
theorem dX12_act_264 : decode cX12_act 264 = .ok (.getfield 62, 3) := o_180 (u1_8 hc_X12_act_256 rfl) (u2_d (u1_9 hc_X12_act_256 rfl) (u1_10 hc_X12_act_256 rfl) rfl) rfl
theorem dX12_act_267 : decode cX12_act 267 = .ok (.iconst 3, 1) := o_6 (u1_11 hc_X12_act_256 rfl) rfl
theorem dX12_act_268 : decode cX12_act 268 = .ok (.aload_n 0, 1) := o_42 (u1_12 hc_X12_act_256 rfl) rfl
theorem dX12_act_269 : decode cX12_act 269 = .ok (.getfield 291, 3) := o_180 (u1_13 hc_X12_act_256 rfl) (u2_d (u1_14 hc_X12_act_256 rfl) (u1_15 hc_X12_act_256 rfl) rfl) rfl
theorem hc_X12_act_272 : ((bL cX12_act).drop 272).take 18 = [104, 5, 96, 27, 184, 1, 133, 153, 0, 7, 29, 167, 0, 4, 3, 79, 42, 89] := by decide +kernel
theorem dX12_act_272 : decode cX12_act 272 = .ok (.imul, 1) := o_104 (u1_0 hc_X12_act_272 rfl) rfl
theorem dX12_act_273 : decode cX12_act 273 = .ok (.iconst 2, 1) := o_5 (u1_1 hc_X12_act_272 rfl) rfl
theorem dX12_act_274 : decode cX12_act 274 = .ok (.iadd, 1) := o_96 (u1_2 hc_X12_act_272 rfl) rfl
theorem dX12_act_275 : decode cX12_act 275 = .ok (.iload_n 1, 1) := o_27 (u1_3 hc_X12_act_272 rfl) rfl
theorem dX12_act_276 : decode cX12_act 276 = .ok (.invokestatic 389, 3) := o_184 (u1_4 hc_X12_act_272 rfl) (u2_d (u1_5 hc_X12_act_272 rfl) (u1_6 hc_X12_act_272 rfl) rfl) rfl
theorem dX12_act_279 : decode cX12_act 279 = .ok (.ifCond .eq 7, 3) := o_153 (u1_7 hc_X12_act_272 rfl) (s2_d (u2_d (u1_8 hc_X12_act_272 rfl) (u1_9 hc_X12_act_272 rfl) rfl) rfl) rfl
theorem dX12_act_282 : decode cX12_act 282 = .ok (.iload_n 3, 1) := o_29 (u1_10 hc_X12_act_272 rfl) rfl
theorem dX12_act_283 : decode cX12_act 283 = .ok (.goto 4, 3) := o_167 (u1_11 hc_X12_act_272 rfl) (s2_d (u2_d (u1_12 hc_X12_act_272 rfl) (u1_13 hc_X12_act_272 rfl) rfl) rfl) rfl
theorem dX12_act_286 : decode cX12_act 286 = .ok (.iconst 0, 1) := o_3 (u1_14 hc_X12_act_272 rfl) rfl
theorem dX12_act_287 : decode cX12_act 287 = .ok (.iastore, 1) := o_79 (u1_15 hc_X12_act_272 rfl) rfl
theorem hc_X12_act_288 : ((bL cX12_act).drop 288).take 18 = [42, 89, 180, 1, 35, 4, 96, 181, 1, 35, 42, 27, 28, 29, 182, 1, 145, 3] := by decide +kernel
theorem dX12_act_288 : decode cX12_act 288 = .ok (.aload_n 0, 1) := o_42 (u1_0 hc_X12_act_288 rfl) rfl
theorem dX12_act_289 : decode cX12_act 289 = .ok (.dup, 1) := o_89 (u1_1 hc_X12_act_288 rfl) rfl
theorem dX12_act_290 : decode cX12_act 290 = .ok (.getfield 291, 3) := o_180 (u1_2 hc_X12_act_288 rfl) (u2_d (u1_3 hc_X12_act_288 rfl) (u1_4 hc_X12_act_288 rfl) rfl) rfl
theorem dX12_act_293 : decode cX12_act 293 = .ok (.iconst 1, 1) := o_4 (u1_5 hc_X12_act_288 rfl) rfl
theorem dX12_act_294 : decode cX12_act 294 = .ok (.iadd, 1) := o_96 (u1_6 hc_X12_act_288 rfl) rfl
theorem dX12_act_295 : decode cX12_act 295 = .ok (.putfield 291, 3) := o_181 (u1_7 hc_X12_act_288 rfl) (u2_d (u1_8 hc_X12_act_288 rfl) (u1_9 hc_X12_act_288 rfl) rfl) rfl
theorem dX12_act_298 : decode cX12_act 298 = .ok (.aload_n 0, 1) := o_42 (u1_10 hc_X12_act_288 rfl) rfl
theorem dX12_act_299 : decode cX12_act 299 = .ok (.iload_n 1, 1) := o_27 (u1_11 hc_X12_act_288 rfl) rfl
theorem dX12_act_300 : decode cX12_act 300 = .ok (.iload_n 2, 1) := o_28 (u1_12 hc_X12_act_288 rfl) rfl
theorem dX12_act_301 : decode cX12_act 301 = .ok (.iload_n 3, 1) := o_29 (u1_13 hc_X12_act_288 rfl) rfl
theorem dX12_act_302 : decode cX12_act 302 = .ok (.invokevirtual 401, 3) := o_182 (u1_14 hc_X12_act_288 rfl) (u2_d (u1_15 hc_X12_act_288 rfl) (u1_16 hc_X12_act_288 rfl) rfl) rfl
theorem hc_X12_act_304 : ((bL cX12_act).drop 304).take 18 = [145, 3, 172] := by decide +kernel
theorem dX12_act_305 : decode cX12_act 305 = .ok (.iconst 0, 1) := o_3 (u1_1 hc_X12_act_304 rfl) rfl
theorem dX12_act_306 : decode cX12_act 306 = .ok (.ireturn, 1) := o_172 (u1_2 hc_X12_act_304 rfl) rfl
theorem hc_X12_back_0 : ((bL cX12_back).drop 0).take 18 = [42, 180, 0, 155, 16, 247, 159, 0, 10, 42, 180, 1, 35, 154, 0, 6, 16, 251] := by decide +kernel
theorem dX12_back_0 : decode cX12_back 0 = .ok (.aload_n 0, 1) := o_42 (u1_0 hc_X12_back_0 rfl) rfl
theorem dX12_back_1 : decode cX12_back 1 = .ok (.getfield 155, 3) := o_180 (u1_1 hc_X12_back_0 rfl) (u2_d (u1_2 hc_X12_back_0 rfl) (u1_3 hc_X12_back_0 rfl) rfl) rfl
theorem dX12_back_4 : decode cX12_back 4 = .ok (.bipush (-9), 2) := o_16 (u1_4 hc_X12_back_0 rfl) (s1_d (u1_5 hc_X12_back_0 rfl) rfl) rfl
theorem dX12_back_6 : decode cX12_back 6 = .ok (.if_icmp .eq 10, 3) := o_159 (u1_6 hc_X12_back_0 rfl) (s2_d (u2_d (u1_7 hc_X12_back_0 rfl) (u1_8 hc_X12_back_0 rfl) rfl) rfl) rfl
theorem dX12_back_9 : decode cX12_back 9 = .ok (.aload_n 0, 1) := o_42 (u1_9 hc_X12_back_0 rfl) rfl
theorem dX12_back_10 : decode cX12_back 10 = .ok (.getfield 291, 3) := o_180 (u1_10 hc_X12_back_0 rfl) (u2_d (u1_11 hc_X12_back_0 rfl) (u1_12 hc_X12_back_0 rfl) rfl) rfl
theorem dX12_back_13 : decode cX12_back 13 = .ok (.ifCond .ne 6, 3) := o_154 (u1_13 hc_X12_back_0 rfl) (s2_d (u2_d (u1_14 hc_X12_back_0 rfl) (u1_15 hc_X12_back_0 rfl) rfl) rfl) rfl
theorem hc_X12_back_16 : ((bL cX12_back).drop 16).take 18 = [16, 251, 172, 42, 89, 180, 1, 35, 4, 100, 181, 1, 35, 3, 60, 27, 16, 30] := by decide +kernel
theorem dX12_back_16 : decode cX12_back 16 = .ok (.bipush (-5), 2) := o_16 (u1_0 hc_X12_back_16 rfl) (s1_d (u1_1 hc_X12_back_16 rfl) rfl) rfl
theorem dX12_back_18 : decode cX12_back 18 = .ok (.ireturn, 1) := o_172 (u1_2 hc_X12_back_16 rfl) rfl
theorem dX12_back_19 : decode cX12_back 19 = .ok (.aload_n 0, 1) := o_42 (u1_3 hc_X12_back_16 rfl) rfl
theorem dX12_back_20 : decode cX12_back 20 = .ok (.dup, 1) := o_89 (u1_4 hc_X12_back_16 rfl) rfl
theorem dX12_back_21 : decode cX12_back 21 = .ok (.getfield 291, 3) := o_180 (u1_5 hc_X12_back_16 rfl) (u2_d (u1_6 hc_X12_back_16 rfl) (u1_7 hc_X12_back_16 rfl) rfl) rfl
theorem dX12_back_24 : decode cX12_back 24 = .ok (.iconst 1, 1) := o_4 (u1_8 hc_X12_back_16 rfl) rfl
theorem dX12_back_25 : decode cX12_back 25 = .ok (.isub, 1) := o_100 (u1_9 hc_X12_back_16 rfl) rfl
theorem dX12_back_26 : decode cX12_back 26 = .ok (.putfield 291, 3) := o_181 (u1_10 hc_X12_back_16 rfl) (u2_d (u1_11 hc_X12_back_16 rfl) (u1_12 hc_X12_back_16 rfl) rfl) rfl
theorem dX12_back_29 : decode cX12_back 29 = .ok (.iconst 0, 1) := o_3 (u1_13 hc_X12_back_16 rfl) rfl
theorem dX12_back_30 : decode cX12_back 30 = .ok (.istore_n 1, 1) := o_60 (u1_14 hc_X12_back_16 rfl) rfl
theorem dX12_back_31 : decode cX12_back 31 = .ok (.iload_n 1, 1) := o_27 (u1_15 hc_X12_back_16 rfl) rfl
theorem hc_X12_back_32 : ((bL cX12_back).drop 32).take 18 = [16, 30, 162, 0, 89, 42, 180, 0, 50, 27, 42, 180, 0, 65, 16, 30, 42, 180] := by decide +kernel
theorem dX12_back_32 : decode cX12_back 32 = .ok (.bipush 30, 2) := o_16 (u1_0 hc_X12_back_32 rfl) (s1_d (u1_1 hc_X12_back_32 rfl) rfl) rfl
theorem dX12_back_34 : decode cX12_back 34 = .ok (.if_icmp .ge 89, 3) := o_162 (u1_2 hc_X12_back_32 rfl) (s2_d (u2_d (u1_3 hc_X12_back_32 rfl) (u1_4 hc_X12_back_32 rfl) rfl) rfl) rfl
theorem dX12_back_37 : decode cX12_back 37 = .ok (.aload_n 0, 1) := o_42 (u1_5 hc_X12_back_32 rfl) rfl
theorem dX12_back_38 : decode cX12_back 38 = .ok (.getfield 50, 3) := o_180 (u1_6 hc_X12_back_32 rfl) (u2_d (u1_7 hc_X12_back_32 rfl) (u1_8 hc_X12_back_32 rfl) rfl) rfl
theorem dX12_back_41 : decode cX12_back 41 = .ok (.iload_n 1, 1) := o_27 (u1_9 hc_X12_back_32 rfl) rfl
theorem dX12_back_42 : decode cX12_back 42 = .ok (.aload_n 0, 1) := o_42 (u1_10 hc_X12_back_32 rfl) rfl
theorem dX12_back_43 : decode cX12_back 43 = .ok (.getfield 65, 3) := o_180 (u1_11 hc_X12_back_32 rfl) (u2_d (u1_12 hc_X12_back_32 rfl) (u1_13 hc_X12_back_32 rfl) rfl) rfl
theorem dX12_back_46 : decode cX12_back 46 = .ok (.bipush 30, 2) := o_16 (u1_14 hc_X12_back_32 rfl) (s1_d (u1_15 hc_X12_back_32 rfl) rfl) rfl
theorem hc_X12_back_48 : ((bL cX12_back).drop 48).take 18 = [42, 180, 1, 35, 104, 27, 96, 46, 79, 42, 180, 0, 53, 27, 42, 180, 0, 68] := by decide +kernel
theorem dX12_back_48 : decode cX12_back 48 = .ok (.aload_n 0, 1) := o_42 (u1_0 hc_X12_back_48 rfl) rfl
theorem dX12_back_49 : decode cX12_back 49 = .ok (.getfield 291, 3) := o_180 (u1_1 hc_X12_back_48 rfl) (u2_d (u1_2 hc_X12_back_48 rfl) (u1_3 hc_X12_back_48 rfl) rfl) rfl
theorem dX12_back_52 : decode cX12_back 52 = .ok (.imul, 1) := o_104 (u1_4 hc_X12_back_48 rfl) rfl
theorem dX12_back_53 : decode cX12_back 53 = .ok (.iload_n 1, 1) := o_27 (u1_5 hc_X12_back_48 rfl) rfl
theorem dX12_back_54 : decode cX12_back 54 = .ok (.iadd, 1) := o_96 (u1_6 hc_X12_back_48 rfl) rfl
theorem dX12_back_55 : decode cX12_back 55 = .ok (.iaload, 1) := o_46 (u1_7 hc_X12_back_48 rfl) rfl
theorem dX12_back_56 : decode cX12_back 56 = .ok (.iastore, 1) := o_79 (u1_8 hc_X12_back_48 rfl) rfl
theorem dX12_back_57 : decode cX12_back 57 = .ok (.aload_n 0, 1) := o_42 (u1_9 hc_X12_back_48 rfl) rfl
theorem dX12_back_58 : decode cX12_back 58 = .ok (.getfield 53, 3) := o_180 (u1_10 hc_X12_back_48 rfl) (u2_d (u1_11 hc_X12_back_48 rfl) (u1_12 hc_X12_back_48 rfl) rfl) rfl
theorem dX12_back_61 : decode cX12_back 61 = .ok (.iload_n 1, 1) := o_27 (u1_13 hc_X12_back_48 rfl) rfl
theorem dX12_back_62 : decode cX12_back 62 = .ok (.aload_n 0, 1) := o_42 (u1_14 hc_X12_back_48 rfl) rfl
theorem dX12_back_63 : decode cX12_back 63 = .ok (.getfield 68, 3) := o_180 (u1_15 hc_X12_back_48 rfl) (u2_d (u1_16 hc_X12_back_48 rfl) (u1_17 hc_X12_back_48 rfl) rfl) rfl
theorem hc_X12_back_64 : ((bL cX12_back).drop 64).take 18 = [0, 68, 16, 30, 42, 180, 1, 35, 104, 27, 96, 46, 79, 42, 180, 0, 56, 27] := by decide +kernel
theorem dX12_back_66 : decode cX12_back 66 = .ok (.bipush 30, 2) := o_16 (u1_2 hc_X12_back_64 rfl) (s1_d (u1_3 hc_X12_back_64 rfl) rfl) rfl
theorem dX12_back_68 : decode cX12_back 68 = .ok (.aload_n 0, 1) := o_42 (u1_4 hc_X12_back_64 rfl) rfl
theorem dX12_back_69 : decode cX12_back 69 = .ok (.getfield 291, 3) := o_180 (u1_5 hc_X12_back_64 rfl) (u2_d (u1_6 hc_X12_back_64 rfl) (u1_7 hc_X12_back_64 rfl) rfl) rfl
theorem dX12_back_72 : decode cX12_back 72 = .ok (.imul, 1) := o_104 (u1_8 hc_X12_back_64 rfl) rfl
theorem dX12_back_73 : decode cX12_back 73 = .ok (.iload_n 1, 1) := o_27 (u1_9 hc_X12_back_64 rfl) rfl
theorem dX12_back_74 : decode cX12_back 74 = .ok (.iadd, 1) := o_96 (u1_10 hc_X12_back_64 rfl) rfl
theorem dX12_back_75 : decode cX12_back 75 = .ok (.iaload, 1) := o_46 (u1_11 hc_X12_back_64 rfl) rfl
theorem dX12_back_76 : decode cX12_back 76 = .ok (.iastore, 1) := o_79 (u1_12 hc_X12_back_64 rfl) rfl
theorem dX12_back_77 : decode cX12_back 77 = .ok (.aload_n 0, 1) := o_42 (u1_13 hc_X12_back_64 rfl) rfl
theorem dX12_back_78 : decode cX12_back 78 = .ok (.getfield 56, 3) := o_180 (u1_14 hc_X12_back_64 rfl) (u2_d (u1_15 hc_X12_back_64 rfl) (u1_16 hc_X12_back_64 rfl) rfl) rfl
theorem hc_X12_back_80 : ((bL cX12_back).drop 80).take 18 = [56, 27, 42, 180, 0, 71, 16, 30, 42, 180, 1, 35, 104, 27, 96, 51, 84, 42] := by decide +kernel
theorem dX12_back_81 : decode cX12_back 81 = .ok (.iload_n 1, 1) := o_27 (u1_1 hc_X12_back_80 rfl) rfl
theorem dX12_back_82 : decode cX12_back 82 = .ok (.aload_n 0, 1) := o_42 (u1_2 hc_X12_back_80 rfl) rfl
theorem dX12_back_83 : decode cX12_back 83 = .ok (.getfield 71, 3) := o_180 (u1_3 hc_X12_back_80 rfl) (u2_d (u1_4 hc_X12_back_80 rfl) (u1_5 hc_X12_back_80 rfl) rfl) rfl
theorem dX12_back_86 : decode cX12_back 86 = .ok (.bipush 30, 2) := o_16 (u1_6 hc_X12_back_80 rfl) (s1_d (u1_7 hc_X12_back_80 rfl) rfl) rfl
theorem dX12_back_88 : decode cX12_back 88 = .ok (.aload_n 0, 1) := o_42 (u1_8 hc_X12_back_80 rfl) rfl
theorem dX12_back_89 : decode cX12_back 89 = .ok (.getfield 291, 3) := o_180 (u1_9 hc_X12_back_80 rfl) (u2_d (u1_10 hc_X12_back_80 rfl) (u1_11 hc_X12_back_80 rfl) rfl) rfl
theorem dX12_back_92 : decode cX12_back 92 = .ok (.imul, 1) := o_104 (u1_12 hc_X12_back_80 rfl) rfl
theorem dX12_back_93 : decode cX12_back 93 = .ok (.iload_n 1, 1) := o_27 (u1_13 hc_X12_back_80 rfl) rfl
theorem dX12_back_94 : decode cX12_back 94 = .ok (.iadd, 1) := o_96 (u1_14 hc_X12_back_80 rfl) rfl
theorem dX12_back_95 : decode cX12_back 95 = .ok (.baload, 1) := o_51 (u1_15 hc_X12_back_80 rfl) rfl
theorem hc_X12_back_96 : ((bL cX12_back).drop 96).take 18 = [84, 42, 180, 0, 59, 27, 42, 180, 0, 74, 16, 30, 42, 180, 1, 35, 104, 27] := by decide +kernel
theorem dX12_back_96 : decode cX12_back 96 = .ok (.bastore, 1) := o_84 (u1_0 hc_X12_back_96 rfl) rfl
theorem dX12_back_97 : decode cX12_back 97 = .ok (.aload_n 0, 1) := o_42 (u1_1 hc_X12_back_96 rfl) rfl
theorem dX12_back_98 : decode cX12_back 98 = .ok (.getfield 59, 3) := o_180 (u1_2 hc_X12_back_96 rfl) (u2_d (u1_3 hc_X12_back_96 rfl) (u1_4 hc_X12_back_96 rfl) rfl) rfl
theorem dX12_back_101 : decode cX12_back 101 = .ok (.iload_n 1, 1) := o_27 (u1_5 hc_X12_back_96 rfl) rfl
theorem dX12_back_102 : decode cX12_back 102 = .ok (.aload_n 0, 1) := o_42 (u1_6 hc_X12_back_96 rfl) rfl
theorem dX12_back_103 : decode cX12_back 103 = .ok (.getfield 74, 3) := o_180 (u1_7 hc_X12_back_96 rfl) (u2_d (u1_8 hc_X12_back_96 rfl) (u1_9 hc_X12_back_96 rfl) rfl) rfl
theorem dX12_back_106 : decode cX12_back 106 = .ok (.bipush 30, 2) := o_16 (u1_10 hc_X12_back_96 rfl) (s1_d (u1_11 hc_X12_back_96 rfl) rfl) rfl
theorem dX12_back_108 : decode cX12_back 108 = .ok (.aload_n 0, 1) := o_42 (u1_12 hc_X12_back_96 rfl) rfl
theorem dX12_back_109 : decode cX12_back 109 = .ok (.getfield 291, 3) := o_180 (u1_13 hc_X12_back_96 rfl) (u2_d (u1_14 hc_X12_back_96 rfl) (u1_15 hc_X12_back_96 rfl) rfl) rfl
theorem hc_X12_back_112 : ((bL cX12_back).drop 112).take 18 = [104, 27, 96, 51, 84, 132, 1, 1, 167, 255, 167, 42, 180, 1, 35, 172] := by decide +kernel
theorem dX12_back_112 : decode cX12_back 112 = .ok (.imul, 1) := o_104 (u1_0 hc_X12_back_112 rfl) rfl
theorem dX12_back_113 : decode cX12_back 113 = .ok (.iload_n 1, 1) := o_27 (u1_1 hc_X12_back_112 rfl) rfl
theorem dX12_back_114 : decode cX12_back 114 = .ok (.iadd, 1) := o_96 (u1_2 hc_X12_back_112 rfl) rfl
theorem dX12_back_115 : decode cX12_back 115 = .ok (.baload, 1) := o_51 (u1_3 hc_X12_back_112 rfl) rfl
theorem dX12_back_116 : decode cX12_back 116 = .ok (.bastore, 1) := o_84 (u1_4 hc_X12_back_112 rfl) rfl
theorem dX12_back_117 : decode cX12_back 117 = .ok (.iinc 1 1, 3) := o_132 (u1_5 hc_X12_back_112 rfl) (u1_6 hc_X12_back_112 rfl) (s1_d (u1_7 hc_X12_back_112 rfl) rfl) rfl
theorem dX12_back_120 : decode cX12_back 120 = .ok (.goto (-89), 3) := o_167 (u1_8 hc_X12_back_112 rfl) (s2_d (u2_d (u1_9 hc_X12_back_112 rfl) (u1_10 hc_X12_back_112 rfl) rfl) rfl) rfl
theorem dX12_back_123 : decode cX12_back 123 = .ok (.aload_n 0, 1) := o_42 (u1_11 hc_X12_back_112 rfl) rfl
theorem dX12_back_124 : decode cX12_back 124 = .ok (.getfield 291, 3) := o_180 (u1_12 hc_X12_back_112 rfl) (u2_d (u1_13 hc_X12_back_112 rfl) (u1_14 hc_X12_back_112 rfl) rfl) rfl
theorem dX12_back_127 : decode cX12_back 127 = .ok (.ireturn, 1) := o_172 (u1_15 hc_X12_back_112 rfl) rfl
theorem hc_X12_told_0 : ((bL cX12_told).drop 0).take 18 = [28, 170, 0, 0, 0, 0, 0, 139, 0, 0, 0, 0, 0, 0, 0, 5, 0, 0] := by decide +kernel
theorem dX12_told_0 : decode cX12_told 0 = .ok (.iload_n 2, 1) := o_28 (u1_0 hc_X12_told_0 rfl) rfl
theorem dX12_told_1 : decode cX12_told 1 = .ok (.tableswitch 139 0 5 #[39, 46, 53, 81, 109, 124], 39) := by decide +kernel
theorem hc_X12_told_32 : ((bL cX12_told).drop 32).take 18 = [0, 0, 0, 109, 0, 0, 0, 124, 42, 180, 0, 50, 27, 46, 172, 42, 180, 0] := by decide +kernel
theorem dX12_told_40 : decode cX12_told 40 = .ok (.aload_n 0, 1) := o_42 (u1_8 hc_X12_told_32 rfl) rfl
theorem dX12_told_41 : decode cX12_told 41 = .ok (.getfield 50, 3) := o_180 (u1_9 hc_X12_told_32 rfl) (u2_d (u1_10 hc_X12_told_32 rfl) (u1_11 hc_X12_told_32 rfl) rfl) rfl
theorem dX12_told_44 : decode cX12_told 44 = .ok (.iload_n 1, 1) := o_27 (u1_12 hc_X12_told_32 rfl) rfl
theorem dX12_told_45 : decode cX12_told 45 = .ok (.iaload, 1) := o_46 (u1_13 hc_X12_told_32 rfl) rfl
theorem dX12_told_46 : decode cX12_told 46 = .ok (.ireturn, 1) := o_172 (u1_14 hc_X12_told_32 rfl) rfl
theorem dX12_told_47 : decode cX12_told 47 = .ok (.aload_n 0, 1) := o_42 (u1_15 hc_X12_told_32 rfl) rfl
theorem hc_X12_told_48 : ((bL cX12_told).drop 48).take 18 = [180, 0, 53, 27, 46, 172, 42, 27, 182, 0, 191, 153, 0, 20, 42, 180, 0, 56] := by decide +kernel
theorem dX12_told_48 : decode cX12_told 48 = .ok (.getfield 53, 3) := o_180 (u1_0 hc_X12_told_48 rfl) (u2_d (u1_1 hc_X12_told_48 rfl) (u1_2 hc_X12_told_48 rfl) rfl) rfl
theorem dX12_told_51 : decode cX12_told 51 = .ok (.iload_n 1, 1) := o_27 (u1_3 hc_X12_told_48 rfl) rfl
theorem dX12_told_52 : decode cX12_told 52 = .ok (.iaload, 1) := o_46 (u1_4 hc_X12_told_48 rfl) rfl
theorem dX12_told_53 : decode cX12_told 53 = .ok (.ireturn, 1) := o_172 (u1_5 hc_X12_told_48 rfl) rfl
theorem dX12_told_54 : decode cX12_told 54 = .ok (.aload_n 0, 1) := o_42 (u1_6 hc_X12_told_48 rfl) rfl
theorem dX12_told_55 : decode cX12_told 55 = .ok (.iload_n 1, 1) := o_27 (u1_7 hc_X12_told_48 rfl) rfl
theorem dX12_told_56 : decode cX12_told 56 = .ok (.invokevirtual 191, 3) := o_182 (u1_8 hc_X12_told_48 rfl) (u2_d (u1_9 hc_X12_told_48 rfl) (u1_10 hc_X12_told_48 rfl) rfl) rfl
theorem dX12_told_59 : decode cX12_told 59 = .ok (.ifCond .eq 20, 3) := o_153 (u1_11 hc_X12_told_48 rfl) (s2_d (u2_d (u1_12 hc_X12_told_48 rfl) (u1_13 hc_X12_told_48 rfl) rfl) rfl) rfl
theorem dX12_told_62 : decode cX12_told 62 = .ok (.aload_n 0, 1) := o_42 (u1_14 hc_X12_told_48 rfl) rfl
theorem dX12_told_63 : decode cX12_told 63 = .ok (.getfield 56, 3) := o_180 (u1_15 hc_X12_told_48 rfl) (u2_d (u1_16 hc_X12_told_48 rfl) (u1_17 hc_X12_told_48 rfl) rfl) rfl
theorem hc_X12_told_64 : ((bL cX12_told).drop 64).take 18 = [0, 56, 27, 51, 153, 0, 7, 4, 167, 0, 9, 3, 167, 0, 5, 16, 247, 172] := by decide +kernel
theorem dX12_told_66 : decode cX12_told 66 = .ok (.iload_n 1, 1) := o_27 (u1_2 hc_X12_told_64 rfl) rfl
theorem dX12_told_67 : decode cX12_told 67 = .ok (.baload, 1) := o_51 (u1_3 hc_X12_told_64 rfl) rfl
theorem dX12_told_68 : decode cX12_told 68 = .ok (.ifCond .eq 7, 3) := o_153 (u1_4 hc_X12_told_64 rfl) (s2_d (u2_d (u1_5 hc_X12_told_64 rfl) (u1_6 hc_X12_told_64 rfl) rfl) rfl) rfl
