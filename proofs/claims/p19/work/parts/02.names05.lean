theorem dX11_toward_10 : decode cX11_toward 10 = .ok (.ifCond .eq 6, 3) := o_153 (u1_10 hc_X11_toward_0 rfl) (s2_d (u2_d (u1_11 hc_X11_toward_0 rfl) (u1_12 hc_X11_toward_0 rfl) rfl) rfl) rfl
theorem dX11_toward_13 : decode cX11_toward 13 = .ok (.iload 4, 2) := o_21 (u1_13 hc_X11_toward_0 rfl) (u1_14 hc_X11_toward_0 rfl) rfl
theorem dX11_toward_15 : decode cX11_toward 15 = .ok (.ireturn, 1) := o_172 (u1_15 hc_X11_toward_0 rfl) rfl
theorem hc_X11_toward_16 : ((bL cX11_toward).drop 16).take 18 = [42, 180, 0, 30, 27, 29, 182, 0, 235, 42, 180, 0, 30, 180, 0, 242, 28, 46] := by decide +kernel
theorem dX11_toward_16 : decode cX11_toward 16 = .ok (.aload_n 0, 1) := o_42 (u1_0 hc_X11_toward_16 rfl) rfl
theorem dX11_toward_17 : decode cX11_toward 17 = .ok (.getfield 30, 3) := o_180 (u1_1 hc_X11_toward_16 rfl) (u2_d (u1_2 hc_X11_toward_16 rfl) (u1_3 hc_X11_toward_16 rfl) rfl) rfl
theorem dX11_toward_20 : decode cX11_toward 20 = .ok (.iload_n 1, 1) := o_27 (u1_4 hc_X11_toward_16 rfl) rfl
theorem dX11_toward_21 : decode cX11_toward 21 = .ok (.iload_n 3, 1) := o_29 (u1_5 hc_X11_toward_16 rfl) rfl
theorem dX11_toward_22 : decode cX11_toward 22 = .ok (.invokevirtual 235, 3) := o_182 (u1_6 hc_X11_toward_16 rfl) (u2_d (u1_7 hc_X11_toward_16 rfl) (u1_8 hc_X11_toward_16 rfl) rfl) rfl
theorem dX11_toward_25 : decode cX11_toward 25 = .ok (.aload_n 0, 1) := o_42 (u1_9 hc_X11_toward_16 rfl) rfl
theorem dX11_toward_26 : decode cX11_toward 26 = .ok (.getfield 30, 3) := o_180 (u1_10 hc_X11_toward_16 rfl) (u2_d (u1_11 hc_X11_toward_16 rfl) (u1_12 hc_X11_toward_16 rfl) rfl) rfl
theorem dX11_toward_29 : decode cX11_toward 29 = .ok (.getfield 242, 3) := o_180 (u1_13 hc_X11_toward_16 rfl) (u2_d (u1_14 hc_X11_toward_16 rfl) (u1_15 hc_X11_toward_16 rfl) rfl) rfl
theorem hc_X11_toward_32 : ((bL cX11_toward).drop 32).take 18 = [28, 46, 172] := by decide +kernel
theorem dX11_toward_32 : decode cX11_toward 32 = .ok (.iload_n 2, 1) := o_28 (u1_0 hc_X11_toward_32 rfl) rfl
theorem dX11_toward_33 : decode cX11_toward 33 = .ok (.iaload, 1) := o_46 (u1_1 hc_X11_toward_32 rfl) rfl
theorem dX11_toward_34 : decode cX11_toward 34 = .ok (.ireturn, 1) := o_172 (u1_2 hc_X11_toward_32 rfl) rfl
theorem hc_X11_begin_0 : ((bL cX11_begin).drop 0).take 18 = [42, 180, 0, 10, 27, 182, 0, 109, 154, 0, 5, 2, 172, 42, 180, 0, 10, 27] := by decide +kernel
theorem dX11_begin_0 : decode cX11_begin 0 = .ok (.aload_n 0, 1) := o_42 (u1_0 hc_X11_begin_0 rfl) rfl
theorem dX11_begin_1 : decode cX11_begin 1 = .ok (.getfield 10, 3) := o_180 (u1_1 hc_X11_begin_0 rfl) (u2_d (u1_2 hc_X11_begin_0 rfl) (u1_3 hc_X11_begin_0 rfl) rfl) rfl
theorem dX11_begin_4 : decode cX11_begin 4 = .ok (.iload_n 1, 1) := o_27 (u1_4 hc_X11_begin_0 rfl) rfl
theorem dX11_begin_5 : decode cX11_begin 5 = .ok (.invokevirtual 109, 3) := o_182 (u1_5 hc_X11_begin_0 rfl) (u2_d (u1_6 hc_X11_begin_0 rfl) (u1_7 hc_X11_begin_0 rfl) rfl) rfl
theorem dX11_begin_8 : decode cX11_begin 8 = .ok (.ifCond .ne 5, 3) := o_154 (u1_8 hc_X11_begin_0 rfl) (s2_d (u2_d (u1_9 hc_X11_begin_0 rfl) (u1_10 hc_X11_begin_0 rfl) rfl) rfl) rfl
theorem dX11_begin_11 : decode cX11_begin 11 = .ok (.iconst (-1), 1) := o_2 (u1_11 hc_X11_begin_0 rfl) rfl
theorem dX11_begin_12 : decode cX11_begin 12 = .ok (.ireturn, 1) := o_172 (u1_12 hc_X11_begin_0 rfl) rfl
theorem dX11_begin_13 : decode cX11_begin 13 = .ok (.aload_n 0, 1) := o_42 (u1_13 hc_X11_begin_0 rfl) rfl
theorem dX11_begin_14 : decode cX11_begin 14 = .ok (.getfield 10, 3) := o_180 (u1_14 hc_X11_begin_0 rfl) (u2_d (u1_15 hc_X11_begin_0 rfl) (u1_16 hc_X11_begin_0 rfl) rfl) rfl
theorem hc_X11_begin_16 : ((bL cX11_begin).drop 16).take 18 = [10, 27, 182, 0, 125, 8, 159, 0, 9, 42, 6, 182, 0, 128, 172, 42, 180, 0] := by decide +kernel
theorem dX11_begin_17 : decode cX11_begin 17 = .ok (.iload_n 1, 1) := o_27 (u1_1 hc_X11_begin_16 rfl) rfl
theorem dX11_begin_18 : decode cX11_begin 18 = .ok (.invokevirtual 125, 3) := o_182 (u1_2 hc_X11_begin_16 rfl) (u2_d (u1_3 hc_X11_begin_16 rfl) (u1_4 hc_X11_begin_16 rfl) rfl) rfl
theorem dX11_begin_21 : decode cX11_begin 21 = .ok (.iconst 5, 1) := o_8 (u1_5 hc_X11_begin_16 rfl) rfl
theorem dX11_begin_22 : decode cX11_begin 22 = .ok (.if_icmp .eq 9, 3) := o_159 (u1_6 hc_X11_begin_16 rfl) (s2_d (u2_d (u1_7 hc_X11_begin_16 rfl) (u1_8 hc_X11_begin_16 rfl) rfl) rfl) rfl
theorem dX11_begin_25 : decode cX11_begin 25 = .ok (.aload_n 0, 1) := o_42 (u1_9 hc_X11_begin_16 rfl) rfl
theorem dX11_begin_26 : decode cX11_begin 26 = .ok (.iconst 3, 1) := o_6 (u1_10 hc_X11_begin_16 rfl) rfl
theorem dX11_begin_27 : decode cX11_begin 27 = .ok (.invokevirtual 128, 3) := o_182 (u1_11 hc_X11_begin_16 rfl) (u2_d (u1_12 hc_X11_begin_16 rfl) (u1_13 hc_X11_begin_16 rfl) rfl) rfl
theorem dX11_begin_30 : decode cX11_begin 30 = .ok (.ireturn, 1) := o_172 (u1_14 hc_X11_begin_16 rfl) rfl
theorem dX11_begin_31 : decode cX11_begin 31 = .ok (.aload_n 0, 1) := o_42 (u1_15 hc_X11_begin_16 rfl) rfl
theorem hc_X11_begin_32 : ((bL cX11_begin).drop 32).take 18 = [180, 0, 21, 180, 0, 203, 27, 182, 0, 245, 61, 28, 16, 247, 160, 0, 9, 42] := by decide +kernel
theorem dX11_begin_32 : decode cX11_begin 32 = .ok (.getfield 21, 3) := o_180 (u1_0 hc_X11_begin_32 rfl) (u2_d (u1_1 hc_X11_begin_32 rfl) (u1_2 hc_X11_begin_32 rfl) rfl) rfl
theorem dX11_begin_35 : decode cX11_begin 35 = .ok (.getfield 203, 3) := o_180 (u1_3 hc_X11_begin_32 rfl) (u2_d (u1_4 hc_X11_begin_32 rfl) (u1_5 hc_X11_begin_32 rfl) rfl) rfl
theorem dX11_begin_38 : decode cX11_begin 38 = .ok (.iload_n 1, 1) := o_27 (u1_6 hc_X11_begin_32 rfl) rfl
theorem dX11_begin_39 : decode cX11_begin 39 = .ok (.invokevirtual 245, 3) := o_182 (u1_7 hc_X11_begin_32 rfl) (u2_d (u1_8 hc_X11_begin_32 rfl) (u1_9 hc_X11_begin_32 rfl) rfl) rfl
theorem dX11_begin_42 : decode cX11_begin 42 = .ok (.istore_n 2, 1) := o_61 (u1_10 hc_X11_begin_32 rfl) rfl
theorem dX11_begin_43 : decode cX11_begin 43 = .ok (.iload_n 2, 1) := o_28 (u1_11 hc_X11_begin_32 rfl) rfl
theorem dX11_begin_44 : decode cX11_begin 44 = .ok (.bipush (-9), 2) := o_16 (u1_12 hc_X11_begin_32 rfl) (s1_d (u1_13 hc_X11_begin_32 rfl) rfl) rfl
theorem dX11_begin_46 : decode cX11_begin 46 = .ok (.if_icmp .ne 9, 3) := o_160 (u1_14 hc_X11_begin_32 rfl) (s2_d (u2_d (u1_15 hc_X11_begin_32 rfl) (u1_16 hc_X11_begin_32 rfl) rfl) rfl) rfl
theorem hc_X11_begin_48 : ((bL cX11_begin).drop 48).take 18 = [9, 42, 4, 182, 0, 128, 172, 42, 180, 0, 46, 27, 182, 0, 248, 28, 172] := by decide +kernel
theorem dX11_begin_49 : decode cX11_begin 49 = .ok (.aload_n 0, 1) := o_42 (u1_1 hc_X11_begin_48 rfl) rfl
theorem dX11_begin_50 : decode cX11_begin 50 = .ok (.iconst 1, 1) := o_4 (u1_2 hc_X11_begin_48 rfl) rfl
theorem dX11_begin_51 : decode cX11_begin 51 = .ok (.invokevirtual 128, 3) := o_182 (u1_3 hc_X11_begin_48 rfl) (u2_d (u1_4 hc_X11_begin_48 rfl) (u1_5 hc_X11_begin_48 rfl) rfl) rfl
theorem dX11_begin_54 : decode cX11_begin 54 = .ok (.ireturn, 1) := o_172 (u1_6 hc_X11_begin_48 rfl) rfl
theorem dX11_begin_55 : decode cX11_begin 55 = .ok (.aload_n 0, 1) := o_42 (u1_7 hc_X11_begin_48 rfl) rfl
theorem dX11_begin_56 : decode cX11_begin 56 = .ok (.getfield 46, 3) := o_180 (u1_8 hc_X11_begin_48 rfl) (u2_d (u1_9 hc_X11_begin_48 rfl) (u1_10 hc_X11_begin_48 rfl) rfl) rfl
theorem dX11_begin_59 : decode cX11_begin 59 = .ok (.iload_n 1, 1) := o_27 (u1_11 hc_X11_begin_48 rfl) rfl
theorem dX11_begin_60 : decode cX11_begin 60 = .ok (.invokevirtual 248, 3) := o_182 (u1_12 hc_X11_begin_48 rfl) (u2_d (u1_13 hc_X11_begin_48 rfl) (u1_14 hc_X11_begin_48 rfl) rfl) rfl
theorem dX11_begin_63 : decode cX11_begin 63 = .ok (.iload_n 2, 1) := o_28 (u1_15 hc_X11_begin_48 rfl) rfl
theorem hc_X11_begin_64 : ((bL cX11_begin).drop 64).take 18 = [172] := by decide +kernel
theorem dX11_begin_64 : decode cX11_begin 64 = .ok (.ireturn, 1) := o_172 (u1_0 hc_X11_begin_64 rfl) rfl
theorem hc_X11_act_0 : ((bL cX11_act).drop 0).take 18 = [42, 180, 0, 46, 27, 28, 29, 182, 0, 251, 154, 0, 5, 2, 172, 42, 180, 0] := by decide +kernel
theorem dX11_act_0 : decode cX11_act 0 = .ok (.aload_n 0, 1) := o_42 (u1_0 hc_X11_act_0 rfl) rfl
theorem dX11_act_1 : decode cX11_act 1 = .ok (.getfield 46, 3) := o_180 (u1_1 hc_X11_act_0 rfl) (u2_d (u1_2 hc_X11_act_0 rfl) (u1_3 hc_X11_act_0 rfl) rfl) rfl
theorem dX11_act_4 : decode cX11_act 4 = .ok (.iload_n 1, 1) := o_27 (u1_4 hc_X11_act_0 rfl) rfl
theorem dX11_act_5 : decode cX11_act 5 = .ok (.iload_n 2, 1) := o_28 (u1_5 hc_X11_act_0 rfl) rfl
theorem dX11_act_6 : decode cX11_act 6 = .ok (.iload_n 3, 1) := o_29 (u1_6 hc_X11_act_0 rfl) rfl
theorem dX11_act_7 : decode cX11_act 7 = .ok (.invokevirtual 251, 3) := o_182 (u1_7 hc_X11_act_0 rfl) (u2_d (u1_8 hc_X11_act_0 rfl) (u1_9 hc_X11_act_0 rfl) rfl) rfl
theorem dX11_act_10 : decode cX11_act 10 = .ok (.ifCond .ne 5, 3) := o_154 (u1_10 hc_X11_act_0 rfl) (s2_d (u2_d (u1_11 hc_X11_act_0 rfl) (u1_12 hc_X11_act_0 rfl) rfl) rfl) rfl
theorem dX11_act_13 : decode cX11_act 13 = .ok (.iconst (-1), 1) := o_2 (u1_13 hc_X11_act_0 rfl) rfl
theorem dX11_act_14 : decode cX11_act 14 = .ok (.ireturn, 1) := o_172 (u1_14 hc_X11_act_0 rfl) rfl
theorem dX11_act_15 : decode cX11_act 15 = .ok (.aload_n 0, 1) := o_42 (u1_15 hc_X11_act_0 rfl) rfl
theorem hc_X11_act_16 : ((bL cX11_act).drop 16).take 18 = [180, 0, 46, 180, 0, 254, 16, 100, 161, 0, 6, 16, 254, 172, 42, 180, 0, 46] := by decide +kernel
theorem dX11_act_16 : decode cX11_act 16 = .ok (.getfield 46, 3) := o_180 (u1_0 hc_X11_act_16 rfl) (u2_d (u1_1 hc_X11_act_16 rfl) (u1_2 hc_X11_act_16 rfl) rfl) rfl
theorem dX11_act_19 : decode cX11_act 19 = .ok (.getfield 254, 3) := o_180 (u1_3 hc_X11_act_16 rfl) (u2_d (u1_4 hc_X11_act_16 rfl) (u1_5 hc_X11_act_16 rfl) rfl) rfl
theorem dX11_act_22 : decode cX11_act 22 = .ok (.bipush 100, 2) := o_16 (u1_6 hc_X11_act_16 rfl) (s1_d (u1_7 hc_X11_act_16 rfl) rfl) rfl
theorem dX11_act_24 : decode cX11_act 24 = .ok (.if_icmp .lt 6, 3) := o_161 (u1_8 hc_X11_act_16 rfl) (s2_d (u2_d (u1_9 hc_X11_act_16 rfl) (u1_10 hc_X11_act_16 rfl) rfl) rfl) rfl
theorem dX11_act_27 : decode cX11_act 27 = .ok (.bipush (-2), 2) := o_16 (u1_11 hc_X11_act_16 rfl) (s1_d (u1_12 hc_X11_act_16 rfl) rfl) rfl
theorem dX11_act_29 : decode cX11_act 29 = .ok (.ireturn, 1) := o_172 (u1_13 hc_X11_act_16 rfl) rfl
theorem dX11_act_30 : decode cX11_act 30 = .ok (.aload_n 0, 1) := o_42 (u1_14 hc_X11_act_16 rfl) rfl
theorem dX11_act_31 : decode cX11_act 31 = .ok (.getfield 46, 3) := o_180 (u1_15 hc_X11_act_16 rfl) (u2_d (u1_16 hc_X11_act_16 rfl) (u1_17 hc_X11_act_16 rfl) rfl) rfl
theorem hc_X11_act_32 : ((bL cX11_act).drop 32).take 18 = [0, 46, 180, 1, 1, 154, 0, 6, 16, 251, 172, 42, 180, 0, 46, 27, 28, 29] := by decide +kernel
theorem dX11_act_34 : decode cX11_act 34 = .ok (.getfield 257, 3) := o_180 (u1_2 hc_X11_act_32 rfl) (u2_d (u1_3 hc_X11_act_32 rfl) (u1_4 hc_X11_act_32 rfl) rfl) rfl
theorem dX11_act_37 : decode cX11_act 37 = .ok (.ifCond .ne 6, 3) := o_154 (u1_5 hc_X11_act_32 rfl) (s2_d (u2_d (u1_6 hc_X11_act_32 rfl) (u1_7 hc_X11_act_32 rfl) rfl) rfl) rfl
theorem dX11_act_40 : decode cX11_act 40 = .ok (.bipush (-5), 2) := o_16 (u1_8 hc_X11_act_32 rfl) (s1_d (u1_9 hc_X11_act_32 rfl) rfl) rfl
theorem dX11_act_42 : decode cX11_act 42 = .ok (.ireturn, 1) := o_172 (u1_10 hc_X11_act_32 rfl) rfl
theorem dX11_act_43 : decode cX11_act 43 = .ok (.aload_n 0, 1) := o_42 (u1_11 hc_X11_act_32 rfl) rfl
theorem dX11_act_44 : decode cX11_act 44 = .ok (.getfield 46, 3) := o_180 (u1_12 hc_X11_act_32 rfl) (u2_d (u1_13 hc_X11_act_32 rfl) (u1_14 hc_X11_act_32 rfl) rfl) rfl
theorem dX11_act_47 : decode cX11_act 47 = .ok (.iload_n 1, 1) := o_27 (u1_15 hc_X11_act_32 rfl) rfl
theorem hc_X11_act_48 : ((bL cX11_act).drop 48).take 18 = [28, 29, 182, 1, 5, 172] := by decide +kernel
theorem dX11_act_48 : decode cX11_act 48 = .ok (.iload_n 2, 1) := o_28 (u1_0 hc_X11_act_48 rfl) rfl
theorem dX11_act_49 : decode cX11_act 49 = .ok (.iload_n 3, 1) := o_29 (u1_1 hc_X11_act_48 rfl) rfl
theorem dX11_act_50 : decode cX11_act 50 = .ok (.invokevirtual 261, 3) := o_182 (u1_2 hc_X11_act_48 rfl) (u2_d (u1_3 hc_X11_act_48 rfl) (u1_4 hc_X11_act_48 rfl) rfl) rfl
theorem dX11_act_53 : decode cX11_act 53 = .ok (.ireturn, 1) := o_172 (u1_5 hc_X11_act_48 rfl) rfl
theorem hc_X11_back_0 : ((bL cX11_back).drop 0).take 18 = [42, 180, 0, 46, 180, 1, 1, 153, 0, 13, 42, 180, 0, 46, 180, 0, 254, 154] := by decide +kernel
theorem dX11_back_0 : decode cX11_back 0 = .ok (.aload_n 0, 1) := o_42 (u1_0 hc_X11_back_0 rfl) rfl
theorem dX11_back_1 : decode cX11_back 1 = .ok (.getfield 46, 3) := o_180 (u1_1 hc_X11_back_0 rfl) (u2_d (u1_2 hc_X11_back_0 rfl) (u1_3 hc_X11_back_0 rfl) rfl) rfl
theorem dX11_back_4 : decode cX11_back 4 = .ok (.getfield 257, 3) := o_180 (u1_4 hc_X11_back_0 rfl) (u2_d (u1_5 hc_X11_back_0 rfl) (u1_6 hc_X11_back_0 rfl) rfl) rfl
theorem dX11_back_7 : decode cX11_back 7 = .ok (.ifCond .eq 13, 3) := o_153 (u1_7 hc_X11_back_0 rfl) (s2_d (u2_d (u1_8 hc_X11_back_0 rfl) (u1_9 hc_X11_back_0 rfl) rfl) rfl) rfl
theorem dX11_back_10 : decode cX11_back 10 = .ok (.aload_n 0, 1) := o_42 (u1_10 hc_X11_back_0 rfl) rfl
theorem dX11_back_11 : decode cX11_back 11 = .ok (.getfield 46, 3) := o_180 (u1_11 hc_X11_back_0 rfl) (u2_d (u1_12 hc_X11_back_0 rfl) (u1_13 hc_X11_back_0 rfl) rfl) rfl
theorem dX11_back_14 : decode cX11_back 14 = .ok (.getfield 254, 3) := o_180 (u1_14 hc_X11_back_0 rfl) (u2_d (u1_15 hc_X11_back_0 rfl) (u1_16 hc_X11_back_0 rfl) rfl) rfl
theorem hc_X11_back_16 : ((bL cX11_back).drop 16).take 18 = [254, 154, 0, 6, 16, 251, 172, 42, 180, 0, 46, 182, 1, 8, 42, 180, 0, 46] := by decide +kernel
theorem dX11_back_17 : decode cX11_back 17 = .ok (.ifCond .ne 6, 3) := o_154 (u1_1 hc_X11_back_16 rfl) (s2_d (u2_d (u1_2 hc_X11_back_16 rfl) (u1_3 hc_X11_back_16 rfl) rfl) rfl) rfl
theorem dX11_back_20 : decode cX11_back 20 = .ok (.bipush (-5), 2) := o_16 (u1_4 hc_X11_back_16 rfl) (s1_d (u1_5 hc_X11_back_16 rfl) rfl) rfl
theorem dX11_back_22 : decode cX11_back 22 = .ok (.ireturn, 1) := o_172 (u1_6 hc_X11_back_16 rfl) rfl
theorem dX11_back_23 : decode cX11_back 23 = .ok (.aload_n 0, 1) := o_42 (u1_7 hc_X11_back_16 rfl) rfl
theorem dX11_back_24 : decode cX11_back 24 = .ok (.getfield 46, 3) := o_180 (u1_8 hc_X11_back_16 rfl) (u2_d (u1_9 hc_X11_back_16 rfl) (u1_10 hc_X11_back_16 rfl) rfl) rfl
theorem dX11_back_27 : decode cX11_back 27 = .ok (.invokevirtual 264, 3) := o_182 (u1_11 hc_X11_back_16 rfl) (u2_d (u1_12 hc_X11_back_16 rfl) (u1_13 hc_X11_back_16 rfl) rfl) rfl
theorem dX11_back_30 : decode cX11_back 30 = .ok (.aload_n 0, 1) := o_42 (u1_14 hc_X11_back_16 rfl) rfl
theorem dX11_back_31 : decode cX11_back 31 = .ok (.getfield 46, 3) := o_180 (u1_15 hc_X11_back_16 rfl) (u2_d (u1_16 hc_X11_back_16 rfl) (u1_17 hc_X11_back_16 rfl) rfl) rfl
theorem hc_X11_back_32 : ((bL cX11_back).drop 32).take 18 = [0, 46, 180, 0, 254, 172] := by decide +kernel
theorem dX11_back_34 : decode cX11_back 34 = .ok (.getfield 254, 3) := o_180 (u1_2 hc_X11_back_32 rfl) (u2_d (u1_3 hc_X11_back_32 rfl) (u1_4 hc_X11_back_32 rfl) rfl) rfl
theorem dX11_back_37 : decode cX11_back 37 = .ok (.ireturn, 1) := o_172 (u1_5 hc_X11_back_32 rfl) rfl
theorem hc_X11_now_0 : ((bL cX11_now).drop 0).take 18 = [42, 180, 0, 10, 27, 182, 0, 109, 153, 0, 12, 28, 16, 7, 184, 0, 91, 154] := by decide +kernel
theorem dX11_now_0 : decode cX11_now 0 = .ok (.aload_n 0, 1) := o_42 (u1_0 hc_X11_now_0 rfl) rfl
theorem dX11_now_1 : decode cX11_now 1 = .ok (.getfield 10, 3) := o_180 (u1_1 hc_X11_now_0 rfl) (u2_d (u1_2 hc_X11_now_0 rfl) (u1_3 hc_X11_now_0 rfl) rfl) rfl
theorem dX11_now_4 : decode cX11_now 4 = .ok (.iload_n 1, 1) := o_27 (u1_4 hc_X11_now_0 rfl) rfl
theorem dX11_now_5 : decode cX11_now 5 = .ok (.invokevirtual 109, 3) := o_182 (u1_5 hc_X11_now_0 rfl) (u2_d (u1_6 hc_X11_now_0 rfl) (u1_7 hc_X11_now_0 rfl) rfl) rfl
theorem dX11_now_8 : decode cX11_now 8 = .ok (.ifCond .eq 12, 3) := o_153 (u1_8 hc_X11_now_0 rfl) (s2_d (u2_d (u1_9 hc_X11_now_0 rfl) (u1_10 hc_X11_now_0 rfl) rfl) rfl) rfl
theorem dX11_now_11 : decode cX11_now 11 = .ok (.iload_n 2, 1) := o_28 (u1_11 hc_X11_now_0 rfl) rfl
theorem dX11_now_12 : decode cX11_now 12 = .ok (.bipush 7, 2) := o_16 (u1_12 hc_X11_now_0 rfl) (s1_d (u1_13 hc_X11_now_0 rfl) rfl) rfl
theorem dX11_now_14 : decode cX11_now 14 = .ok (.invokestatic 91, 3) := o_184 (u1_14 hc_X11_now_0 rfl) (u2_d (u1_15 hc_X11_now_0 rfl) (u1_16 hc_X11_now_0 rfl) rfl) rfl
theorem hc_X11_now_16 : ((bL cX11_now).drop 16).take 18 = [91, 154, 0, 5, 2, 172, 42, 180, 0, 46, 180, 1, 1, 154, 0, 6, 16, 251] := by decide +kernel
theorem dX11_now_17 : decode cX11_now 17 = .ok (.ifCond .ne 5, 3) := o_154 (u1_1 hc_X11_now_16 rfl) (s2_d (u2_d (u1_2 hc_X11_now_16 rfl) (u1_3 hc_X11_now_16 rfl) rfl) rfl) rfl
theorem dX11_now_20 : decode cX11_now 20 = .ok (.iconst (-1), 1) := o_2 (u1_4 hc_X11_now_16 rfl) rfl
theorem dX11_now_21 : decode cX11_now 21 = .ok (.ireturn, 1) := o_172 (u1_5 hc_X11_now_16 rfl) rfl
theorem dX11_now_22 : decode cX11_now 22 = .ok (.aload_n 0, 1) := o_42 (u1_6 hc_X11_now_16 rfl) rfl
theorem dX11_now_23 : decode cX11_now 23 = .ok (.getfield 46, 3) := o_180 (u1_7 hc_X11_now_16 rfl) (u2_d (u1_8 hc_X11_now_16 rfl) (u1_9 hc_X11_now_16 rfl) rfl) rfl
theorem dX11_now_26 : decode cX11_now 26 = .ok (.getfield 257, 3) := o_180 (u1_10 hc_X11_now_16 rfl) (u2_d (u1_11 hc_X11_now_16 rfl) (u1_12 hc_X11_now_16 rfl) rfl) rfl
theorem dX11_now_29 : decode cX11_now 29 = .ok (.ifCond .ne 6, 3) := o_154 (u1_13 hc_X11_now_16 rfl) (s2_d (u2_d (u1_14 hc_X11_now_16 rfl) (u1_15 hc_X11_now_16 rfl) rfl) rfl) rfl
theorem hc_X11_now_32 : ((bL cX11_now).drop 32).take 18 = [16, 251, 172, 42, 180, 0, 46, 27, 28, 182, 1, 11, 172] := by decide +kernel
theorem dX11_now_32 : decode cX11_now 32 = .ok (.bipush (-5), 2) := o_16 (u1_0 hc_X11_now_32 rfl) (s1_d (u1_1 hc_X11_now_32 rfl) rfl) rfl
theorem dX11_now_34 : decode cX11_now 34 = .ok (.ireturn, 1) := o_172 (u1_2 hc_X11_now_32 rfl) rfl
theorem dX11_now_35 : decode cX11_now 35 = .ok (.aload_n 0, 1) := o_42 (u1_3 hc_X11_now_32 rfl) rfl
theorem dX11_now_36 : decode cX11_now 36 = .ok (.getfield 46, 3) := o_180 (u1_4 hc_X11_now_32 rfl) (u2_d (u1_5 hc_X11_now_32 rfl) (u1_6 hc_X11_now_32 rfl) rfl) rfl
theorem dX11_now_39 : decode cX11_now 39 = .ok (.iload_n 1, 1) := o_27 (u1_7 hc_X11_now_32 rfl) rfl
theorem dX11_now_40 : decode cX11_now 40 = .ok (.iload_n 2, 1) := o_28 (u1_8 hc_X11_now_32 rfl) rfl
theorem dX11_now_41 : decode cX11_now 41 = .ok (.invokevirtual 267, 3) := o_182 (u1_9 hc_X11_now_32 rfl) (u2_d (u1_10 hc_X11_now_32 rfl) (u1_11 hc_X11_now_32 rfl) rfl) rfl
theorem dX11_now_44 : decode cX11_now 44 = .ok (.ireturn, 1) := o_172 (u1_12 hc_X11_now_32 rfl) rfl
theorem hc_X11_turn_0 : ((bL cX11_turn).drop 0).take 18 = [28, 6, 184, 0, 91, 153, 0, 7, 27, 156, 0, 5, 2, 172, 42, 180, 0, 46] := by decide +kernel
theorem dX11_turn_0 : decode cX11_turn 0 = .ok (.iload_n 2, 1) := o_28 (u1_0 hc_X11_turn_0 rfl) rfl
theorem dX11_turn_1 : decode cX11_turn 1 = .ok (.iconst 3, 1) := o_6 (u1_1 hc_X11_turn_0 rfl) rfl
theorem dX11_turn_2 : decode cX11_turn 2 = .ok (.invokestatic 91, 3) := o_184 (u1_2 hc_X11_turn_0 rfl) (u2_d (u1_3 hc_X11_turn_0 rfl) (u1_4 hc_X11_turn_0 rfl) rfl) rfl
theorem dX11_turn_5 : decode cX11_turn 5 = .ok (.ifCond .eq 7, 3) := o_153 (u1_5 hc_X11_turn_0 rfl) (s2_d (u2_d (u1_6 hc_X11_turn_0 rfl) (u1_7 hc_X11_turn_0 rfl) rfl) rfl) rfl
theorem dX11_turn_8 : decode cX11_turn 8 = .ok (.iload_n 1, 1) := o_27 (u1_8 hc_X11_turn_0 rfl) rfl
theorem dX11_turn_9 : decode cX11_turn 9 = .ok (.ifCond .ge 5, 3) := o_156 (u1_9 hc_X11_turn_0 rfl) (s2_d (u2_d (u1_10 hc_X11_turn_0 rfl) (u1_11 hc_X11_turn_0 rfl) rfl) rfl) rfl
theorem dX11_turn_12 : decode cX11_turn 12 = .ok (.iconst (-1), 1) := o_2 (u1_12 hc_X11_turn_0 rfl) rfl
theorem dX11_turn_13 : decode cX11_turn 13 = .ok (.ireturn, 1) := o_172 (u1_13 hc_X11_turn_0 rfl) rfl
theorem dX11_turn_14 : decode cX11_turn 14 = .ok (.aload_n 0, 1) := o_42 (u1_14 hc_X11_turn_0 rfl) rfl
theorem dX11_turn_15 : decode cX11_turn 15 = .ok (.getfield 46, 3) := o_180 (u1_15 hc_X11_turn_0 rfl) (u2_d (u1_16 hc_X11_turn_0 rfl) (u1_17 hc_X11_turn_0 rfl) rfl) rfl
theorem hc_X11_turn_16 : ((bL cX11_turn).drop 16).take 18 = [0, 46, 180, 1, 1, 154, 0, 6, 16, 251, 172, 27, 42, 180, 0, 46, 180, 0] := by decide +kernel
theorem dX11_turn_18 : decode cX11_turn 18 = .ok (.getfield 257, 3) := o_180 (u1_2 hc_X11_turn_16 rfl) (u2_d (u1_3 hc_X11_turn_16 rfl) (u1_4 hc_X11_turn_16 rfl) rfl) rfl
theorem dX11_turn_21 : decode cX11_turn 21 = .ok (.ifCond .ne 6, 3) := o_154 (u1_5 hc_X11_turn_16 rfl) (s2_d (u2_d (u1_6 hc_X11_turn_16 rfl) (u1_7 hc_X11_turn_16 rfl) rfl) rfl) rfl
theorem dX11_turn_24 : decode cX11_turn 24 = .ok (.bipush (-5), 2) := o_16 (u1_8 hc_X11_turn_16 rfl) (s1_d (u1_9 hc_X11_turn_16 rfl) rfl) rfl
theorem dX11_turn_26 : decode cX11_turn 26 = .ok (.ireturn, 1) := o_172 (u1_10 hc_X11_turn_16 rfl) rfl
theorem dX11_turn_27 : decode cX11_turn 27 = .ok (.iload_n 1, 1) := o_27 (u1_11 hc_X11_turn_16 rfl) rfl
theorem dX11_turn_28 : decode cX11_turn 28 = .ok (.aload_n 0, 1) := o_42 (u1_12 hc_X11_turn_16 rfl) rfl
theorem dX11_turn_29 : decode cX11_turn 29 = .ok (.getfield 46, 3) := o_180 (u1_13 hc_X11_turn_16 rfl) (u2_d (u1_14 hc_X11_turn_16 rfl) (u1_15 hc_X11_turn_16 rfl) rfl) rfl
theorem hc_X11_turn_32 : ((bL cX11_turn).drop 32).take 18 = [180, 0, 254, 161, 0, 5, 2, 172, 42, 180, 0, 46, 180, 1, 12, 27, 46, 28] := by decide +kernel
theorem dX11_turn_32 : decode cX11_turn 32 = .ok (.getfield 254, 3) := o_180 (u1_0 hc_X11_turn_32 rfl) (u2_d (u1_1 hc_X11_turn_32 rfl) (u1_2 hc_X11_turn_32 rfl) rfl) rfl
theorem dX11_turn_35 : decode cX11_turn 35 = .ok (.if_icmp .lt 5, 3) := o_161 (u1_3 hc_X11_turn_32 rfl) (s2_d (u2_d (u1_4 hc_X11_turn_32 rfl) (u1_5 hc_X11_turn_32 rfl) rfl) rfl) rfl
theorem dX11_turn_38 : decode cX11_turn 38 = .ok (.iconst (-1), 1) := o_2 (u1_6 hc_X11_turn_32 rfl) rfl
theorem dX11_turn_39 : decode cX11_turn 39 = .ok (.ireturn, 1) := o_172 (u1_7 hc_X11_turn_32 rfl) rfl
theorem dX11_turn_40 : decode cX11_turn 40 = .ok (.aload_n 0, 1) := o_42 (u1_8 hc_X11_turn_32 rfl) rfl
theorem dX11_turn_41 : decode cX11_turn 41 = .ok (.getfield 46, 3) := o_180 (u1_9 hc_X11_turn_32 rfl) (u2_d (u1_10 hc_X11_turn_32 rfl) (u1_11 hc_X11_turn_32 rfl) rfl) rfl
theorem dX11_turn_44 : decode cX11_turn 44 = .ok (.getfield 268, 3) := o_180 (u1_12 hc_X11_turn_32 rfl) (u2_d (u1_13 hc_X11_turn_32 rfl) (u1_14 hc_X11_turn_32 rfl) rfl) rfl
theorem dX11_turn_47 : decode cX11_turn 47 = .ok (.iload_n 1, 1) := o_27 (u1_15 hc_X11_turn_32 rfl) rfl
theorem hc_X11_turn_48 : ((bL cX11_turn).drop 48).take 18 = [46, 28, 184, 1, 15, 172] := by decide +kernel
theorem dX11_turn_48 : decode cX11_turn 48 = .ok (.iaload, 1) := o_46 (u1_0 hc_X11_turn_48 rfl) rfl
theorem dX11_turn_49 : decode cX11_turn 49 = .ok (.iload_n 2, 1) := o_28 (u1_1 hc_X11_turn_48 rfl) rfl
theorem dX11_turn_50 : decode cX11_turn 50 = .ok (.invokestatic 271, 3) := o_184 (u1_2 hc_X11_turn_48 rfl) (u2_d (u1_3 hc_X11_turn_48 rfl) (u1_4 hc_X11_turn_48 rfl) rfl) rfl
theorem dX11_turn_53 : decode cX11_turn 53 = .ok (.ireturn, 1) := o_172 (u1_5 hc_X11_turn_48 rfl) rfl
theorem hc_X11_light_0 : ((bL cX11_light).drop 0).take 18 = [42, 180, 0, 46, 180, 1, 1, 154, 0, 6, 16, 251, 172, 42, 180, 0, 46, 180] := by decide +kernel
theorem dX11_light_0 : decode cX11_light 0 = .ok (.aload_n 0, 1) := o_42 (u1_0 hc_X11_light_0 rfl) rfl
theorem dX11_light_1 : decode cX11_light 1 = .ok (.getfield 46, 3) := o_180 (u1_1 hc_X11_light_0 rfl) (u2_d (u1_2 hc_X11_light_0 rfl) (u1_3 hc_X11_light_0 rfl) rfl) rfl
theorem dX11_light_4 : decode cX11_light 4 = .ok (.getfield 257, 3) := o_180 (u1_4 hc_X11_light_0 rfl) (u2_d (u1_5 hc_X11_light_0 rfl) (u1_6 hc_X11_light_0 rfl) rfl) rfl
theorem dX11_light_7 : decode cX11_light 7 = .ok (.ifCond .ne 6, 3) := o_154 (u1_7 hc_X11_light_0 rfl) (s2_d (u2_d (u1_8 hc_X11_light_0 rfl) (u1_9 hc_X11_light_0 rfl) rfl) rfl) rfl
theorem dX11_light_10 : decode cX11_light 10 = .ok (.bipush (-5), 2) := o_16 (u1_10 hc_X11_light_0 rfl) (s1_d (u1_11 hc_X11_light_0 rfl) rfl) rfl
theorem dX11_light_12 : decode cX11_light 12 = .ok (.ireturn, 1) := o_172 (u1_12 hc_X11_light_0 rfl) rfl
theorem dX11_light_13 : decode cX11_light 13 = .ok (.aload_n 0, 1) := o_42 (u1_13 hc_X11_light_0 rfl) rfl
theorem dX11_light_14 : decode cX11_light 14 = .ok (.getfield 46, 3) := o_180 (u1_14 hc_X11_light_0 rfl) (u2_d (u1_15 hc_X11_light_0 rfl) (u1_16 hc_X11_light_0 rfl) rfl) rfl
theorem hc_X11_light_16 : ((bL cX11_light).drop 16).take 18 = [46, 180, 1, 18, 180, 1, 22, 184, 0, 118, 172] := by decide +kernel
theorem dX11_light_17 : decode cX11_light 17 = .ok (.getfield 274, 3) := o_180 (u1_1 hc_X11_light_16 rfl) (u2_d (u1_2 hc_X11_light_16 rfl) (u1_3 hc_X11_light_16 rfl) rfl) rfl
theorem dX11_light_20 : decode cX11_light 20 = .ok (.getfield 278, 3) := o_180 (u1_4 hc_X11_light_16 rfl) (u2_d (u1_5 hc_X11_light_16 rfl) (u1_6 hc_X11_light_16 rfl) rfl) rfl
theorem dX11_light_23 : decode cX11_light 23 = .ok (.invokestatic 118, 3) := o_184 (u1_7 hc_X11_light_16 rfl) (u2_d (u1_8 hc_X11_light_16 rfl) (u1_9 hc_X11_light_16 rfl) rfl) rfl
theorem dX11_light_26 : decode cX11_light 26 = .ok (.ireturn, 1) := o_172 (u1_10 hc_X11_light_16 rfl) rfl
theorem hc_X11_seek_0 : ((bL cX11_seek).drop 0).take 18 = [42, 180, 0, 10, 27, 182, 0, 109, 153, 0, 25, 42, 180, 0, 10, 28, 182, 0] := by decide +kernel
theorem dX11_seek_0 : decode cX11_seek 0 = .ok (.aload_n 0, 1) := o_42 (u1_0 hc_X11_seek_0 rfl) rfl
theorem dX11_seek_1 : decode cX11_seek 1 = .ok (.getfield 10, 3) := o_180 (u1_1 hc_X11_seek_0 rfl) (u2_d (u1_2 hc_X11_seek_0 rfl) (u1_3 hc_X11_seek_0 rfl) rfl) rfl
theorem dX11_seek_4 : decode cX11_seek 4 = .ok (.iload_n 1, 1) := o_27 (u1_4 hc_X11_seek_0 rfl) rfl
theorem dX11_seek_5 : decode cX11_seek 5 = .ok (.invokevirtual 109, 3) := o_182 (u1_5 hc_X11_seek_0 rfl) (u2_d (u1_6 hc_X11_seek_0 rfl) (u1_7 hc_X11_seek_0 rfl) rfl) rfl
theorem dX11_seek_8 : decode cX11_seek 8 = .ok (.ifCond .eq 25, 3) := o_153 (u1_8 hc_X11_seek_0 rfl) (s2_d (u2_d (u1_9 hc_X11_seek_0 rfl) (u1_10 hc_X11_seek_0 rfl) rfl) rfl) rfl
theorem dX11_seek_11 : decode cX11_seek 11 = .ok (.aload_n 0, 1) := o_42 (u1_11 hc_X11_seek_0 rfl) rfl
theorem dX11_seek_12 : decode cX11_seek 12 = .ok (.getfield 10, 3) := o_180 (u1_12 hc_X11_seek_0 rfl) (u2_d (u1_13 hc_X11_seek_0 rfl) (u1_14 hc_X11_seek_0 rfl) rfl) rfl
theorem dX11_seek_15 : decode cX11_seek 15 = .ok (.iload_n 2, 1) := o_28 (u1_15 hc_X11_seek_0 rfl) rfl
theorem hc_X11_seek_16 : ((bL cX11_seek).drop 16).take 18 = [182, 0, 109, 153, 0, 14, 29, 155, 0, 10, 29, 17, 1, 44, 164, 0, 5, 2] := by decide +kernel
theorem dX11_seek_16 : decode cX11_seek 16 = .ok (.invokevirtual 109, 3) := o_182 (u1_0 hc_X11_seek_16 rfl) (u2_d (u1_1 hc_X11_seek_16 rfl) (u1_2 hc_X11_seek_16 rfl) rfl) rfl
theorem dX11_seek_19 : decode cX11_seek 19 = .ok (.ifCond .eq 14, 3) := o_153 (u1_3 hc_X11_seek_16 rfl) (s2_d (u2_d (u1_4 hc_X11_seek_16 rfl) (u1_5 hc_X11_seek_16 rfl) rfl) rfl) rfl
theorem dX11_seek_22 : decode cX11_seek 22 = .ok (.iload_n 3, 1) := o_29 (u1_6 hc_X11_seek_16 rfl) rfl
theorem dX11_seek_23 : decode cX11_seek 23 = .ok (.ifCond .lt 10, 3) := o_155 (u1_7 hc_X11_seek_16 rfl) (s2_d (u2_d (u1_8 hc_X11_seek_16 rfl) (u1_9 hc_X11_seek_16 rfl) rfl) rfl) rfl
theorem dX11_seek_26 : decode cX11_seek 26 = .ok (.iload_n 3, 1) := o_29 (u1_10 hc_X11_seek_16 rfl) rfl
theorem dX11_seek_27 : decode cX11_seek 27 = .ok (.sipush 300, 3) := o_17 (u1_11 hc_X11_seek_16 rfl) (s2_d (u2_d (u1_12 hc_X11_seek_16 rfl) (u1_13 hc_X11_seek_16 rfl) rfl) rfl) rfl
theorem dX11_seek_30 : decode cX11_seek 30 = .ok (.if_icmp .le 5, 3) := o_164 (u1_14 hc_X11_seek_16 rfl) (s2_d (u2_d (u1_15 hc_X11_seek_16 rfl) (u1_16 hc_X11_seek_16 rfl) rfl) rfl) rfl
theorem hc_X11_seek_32 : ((bL cX11_seek).drop 32).take 18 = [5, 2, 172, 42, 180, 0, 46, 180, 1, 1, 154, 0, 6, 16, 251, 172, 42, 180] := by decide +kernel
theorem dX11_seek_33 : decode cX11_seek 33 = .ok (.iconst (-1), 1) := o_2 (u1_1 hc_X11_seek_32 rfl) rfl
theorem dX11_seek_34 : decode cX11_seek 34 = .ok (.ireturn, 1) := o_172 (u1_2 hc_X11_seek_32 rfl) rfl
theorem dX11_seek_35 : decode cX11_seek 35 = .ok (.aload_n 0, 1) := o_42 (u1_3 hc_X11_seek_32 rfl) rfl
theorem dX11_seek_36 : decode cX11_seek 36 = .ok (.getfield 46, 3) := o_180 (u1_4 hc_X11_seek_32 rfl) (u2_d (u1_5 hc_X11_seek_32 rfl) (u1_6 hc_X11_seek_32 rfl) rfl) rfl
theorem dX11_seek_39 : decode cX11_seek 39 = .ok (.getfield 257, 3) := o_180 (u1_7 hc_X11_seek_32 rfl) (u2_d (u1_8 hc_X11_seek_32 rfl) (u1_9 hc_X11_seek_32 rfl) rfl) rfl
theorem dX11_seek_42 : decode cX11_seek 42 = .ok (.ifCond .ne 6, 3) := o_154 (u1_10 hc_X11_seek_32 rfl) (s2_d (u2_d (u1_11 hc_X11_seek_32 rfl) (u1_12 hc_X11_seek_32 rfl) rfl) rfl) rfl
theorem dX11_seek_45 : decode cX11_seek 45 = .ok (.bipush (-5), 2) := o_16 (u1_13 hc_X11_seek_32 rfl) (s1_d (u1_14 hc_X11_seek_32 rfl) rfl) rfl
theorem dX11_seek_47 : decode cX11_seek 47 = .ok (.ireturn, 1) := o_172 (u1_15 hc_X11_seek_32 rfl) rfl
theorem hc_X11_seek_48 : ((bL cX11_seek).drop 48).take 18 = [42, 180, 0, 64, 199, 0, 30, 42, 187, 1, 27, 89, 42, 180, 0, 10, 42, 180] := by decide +kernel
theorem dX11_seek_48 : decode cX11_seek 48 = .ok (.aload_n 0, 1) := o_42 (u1_0 hc_X11_seek_48 rfl) rfl
theorem dX11_seek_49 : decode cX11_seek 49 = .ok (.getfield 64, 3) := o_180 (u1_1 hc_X11_seek_48 rfl) (u2_d (u1_2 hc_X11_seek_48 rfl) (u1_3 hc_X11_seek_48 rfl) rfl) rfl
theorem dX11_seek_52 : decode cX11_seek 52 = .ok (.ifnonnull 30, 3) := o_199 (u1_4 hc_X11_seek_48 rfl) (s2_d (u2_d (u1_5 hc_X11_seek_48 rfl) (u1_6 hc_X11_seek_48 rfl) rfl) rfl) rfl
theorem dX11_seek_55 : decode cX11_seek 55 = .ok (.aload_n 0, 1) := o_42 (u1_7 hc_X11_seek_48 rfl) rfl
theorem dX11_seek_56 : decode cX11_seek 56 = .ok (.new 283, 3) := o_187 (u1_8 hc_X11_seek_48 rfl) (u2_d (u1_9 hc_X11_seek_48 rfl) (u1_10 hc_X11_seek_48 rfl) rfl) rfl
theorem dX11_seek_59 : decode cX11_seek 59 = .ok (.dup, 1) := o_89 (u1_11 hc_X11_seek_48 rfl) rfl
theorem dX11_seek_60 : decode cX11_seek 60 = .ok (.aload_n 0, 1) := o_42 (u1_12 hc_X11_seek_48 rfl) rfl
theorem dX11_seek_61 : decode cX11_seek 61 = .ok (.getfield 10, 3) := o_180 (u1_13 hc_X11_seek_48 rfl) (u2_d (u1_14 hc_X11_seek_48 rfl) (u1_15 hc_X11_seek_48 rfl) rfl) rfl
theorem hc_X11_seek_64 : ((bL cX11_seek).drop 64).take 18 = [42, 180, 0, 21, 42, 180, 0, 30, 42, 180, 0, 37, 183, 1, 29, 181, 0, 64] := by decide +kernel
theorem dX11_seek_64 : decode cX11_seek 64 = .ok (.aload_n 0, 1) := o_42 (u1_0 hc_X11_seek_64 rfl) rfl
theorem dX11_seek_65 : decode cX11_seek 65 = .ok (.getfield 21, 3) := o_180 (u1_1 hc_X11_seek_64 rfl) (u2_d (u1_2 hc_X11_seek_64 rfl) (u1_3 hc_X11_seek_64 rfl) rfl) rfl
theorem dX11_seek_68 : decode cX11_seek 68 = .ok (.aload_n 0, 1) := o_42 (u1_4 hc_X11_seek_64 rfl) rfl
theorem dX11_seek_69 : decode cX11_seek 69 = .ok (.getfield 30, 3) := o_180 (u1_5 hc_X11_seek_64 rfl) (u2_d (u1_6 hc_X11_seek_64 rfl) (u1_7 hc_X11_seek_64 rfl) rfl) rfl
theorem dX11_seek_72 : decode cX11_seek 72 = .ok (.aload_n 0, 1) := o_42 (u1_8 hc_X11_seek_64 rfl) rfl
theorem dX11_seek_73 : decode cX11_seek 73 = .ok (.getfield 37, 3) := o_180 (u1_9 hc_X11_seek_64 rfl) (u2_d (u1_10 hc_X11_seek_64 rfl) (u1_11 hc_X11_seek_64 rfl) rfl) rfl
theorem dX11_seek_76 : decode cX11_seek 76 = .ok (.invokespecial 285, 3) := o_183 (u1_12 hc_X11_seek_64 rfl) (u2_d (u1_13 hc_X11_seek_64 rfl) (u1_14 hc_X11_seek_64 rfl) rfl) rfl
theorem dX11_seek_79 : decode cX11_seek 79 = .ok (.putfield 64, 3) := o_181 (u1_15 hc_X11_seek_64 rfl) (u2_d (u1_16 hc_X11_seek_64 rfl) (u1_17 hc_X11_seek_64 rfl) rfl) rfl
theorem hc_X11_seek_80 : ((bL cX11_seek).drop 80).take 18 = [0, 64, 42, 180, 0, 64, 42, 180, 0, 46, 180, 1, 30, 42, 180, 0, 46, 180] := by decide +kernel
theorem dX11_seek_82 : decode cX11_seek 82 = .ok (.aload_n 0, 1) := o_42 (u1_2 hc_X11_seek_80 rfl) rfl
theorem dX11_seek_83 : decode cX11_seek 83 = .ok (.getfield 64, 3) := o_180 (u1_3 hc_X11_seek_80 rfl) (u2_d (u1_4 hc_X11_seek_80 rfl) (u1_5 hc_X11_seek_80 rfl) rfl) rfl
theorem dX11_seek_86 : decode cX11_seek 86 = .ok (.aload_n 0, 1) := o_42 (u1_6 hc_X11_seek_80 rfl) rfl
theorem dX11_seek_87 : decode cX11_seek 87 = .ok (.getfield 46, 3) := o_180 (u1_7 hc_X11_seek_80 rfl) (u2_d (u1_8 hc_X11_seek_80 rfl) (u1_9 hc_X11_seek_80 rfl) rfl) rfl
theorem dX11_seek_90 : decode cX11_seek 90 = .ok (.getfield 286, 3) := o_180 (u1_10 hc_X11_seek_80 rfl) (u2_d (u1_11 hc_X11_seek_80 rfl) (u1_12 hc_X11_seek_80 rfl) rfl) rfl
theorem dX11_seek_93 : decode cX11_seek 93 = .ok (.aload_n 0, 1) := o_42 (u1_13 hc_X11_seek_80 rfl) rfl
theorem dX11_seek_94 : decode cX11_seek 94 = .ok (.getfield 46, 3) := o_180 (u1_14 hc_X11_seek_80 rfl) (u2_d (u1_15 hc_X11_seek_80 rfl) (u1_16 hc_X11_seek_80 rfl) rfl) rfl
theorem hc_X11_seek_96 : ((bL cX11_seek).drop 96).take 18 = [46, 180, 1, 33, 182, 1, 36, 42, 180, 0, 64, 27, 28, 29, 182, 1, 40, 172] := by decide +kernel
theorem dX11_seek_97 : decode cX11_seek 97 = .ok (.getfield 289, 3) := o_180 (u1_1 hc_X11_seek_96 rfl) (u2_d (u1_2 hc_X11_seek_96 rfl) (u1_3 hc_X11_seek_96 rfl) rfl) rfl
theorem dX11_seek_100 : decode cX11_seek 100 = .ok (.invokevirtual 292, 3) := o_182 (u1_4 hc_X11_seek_96 rfl) (u2_d (u1_5 hc_X11_seek_96 rfl) (u1_6 hc_X11_seek_96 rfl) rfl) rfl
theorem dX11_seek_103 : decode cX11_seek 103 = .ok (.aload_n 0, 1) := o_42 (u1_7 hc_X11_seek_96 rfl) rfl
theorem dX11_seek_104 : decode cX11_seek 104 = .ok (.getfield 64, 3) := o_180 (u1_8 hc_X11_seek_96 rfl) (u2_d (u1_9 hc_X11_seek_96 rfl) (u1_10 hc_X11_seek_96 rfl) rfl) rfl
theorem dX11_seek_107 : decode cX11_seek 107 = .ok (.iload_n 1, 1) := o_27 (u1_11 hc_X11_seek_96 rfl) rfl
theorem dX11_seek_108 : decode cX11_seek 108 = .ok (.iload_n 2, 1) := o_28 (u1_12 hc_X11_seek_96 rfl) rfl
theorem dX11_seek_109 : decode cX11_seek 109 = .ok (.iload_n 3, 1) := o_29 (u1_13 hc_X11_seek_96 rfl) rfl
theorem dX11_seek_110 : decode cX11_seek 110 = .ok (.invokevirtual 296, 3) := o_182 (u1_14 hc_X11_seek_96 rfl) (u2_d (u1_15 hc_X11_seek_96 rfl) (u1_16 hc_X11_seek_96 rfl) rfl) rfl
theorem hc_X11_seek_112 : ((bL cX11_seek).drop 112).take 18 = [40, 172] := by decide +kernel
theorem dX11_seek_113 : decode cX11_seek 113 = .ok (.ireturn, 1) := o_172 (u1_1 hc_X11_seek_112 rfl) rfl
theorem hc_X11_sought_0 : ((bL cX11_sought).drop 0).take 18 = [28, 6, 184, 0, 91, 154, 0, 5, 2, 172, 42, 180, 0, 64, 198, 0, 17, 27] := by decide +kernel
theorem dX11_sought_0 : decode cX11_sought 0 = .ok (.iload_n 2, 1) := o_28 (u1_0 hc_X11_sought_0 rfl) rfl
theorem dX11_sought_1 : decode cX11_sought 1 = .ok (.iconst 3, 1) := o_6 (u1_1 hc_X11_sought_0 rfl) rfl
theorem dX11_sought_2 : decode cX11_sought 2 = .ok (.invokestatic 91, 3) := o_184 (u1_2 hc_X11_sought_0 rfl) (u2_d (u1_3 hc_X11_sought_0 rfl) (u1_4 hc_X11_sought_0 rfl) rfl) rfl
theorem dX11_sought_5 : decode cX11_sought 5 = .ok (.ifCond .ne 5, 3) := o_154 (u1_5 hc_X11_sought_0 rfl) (s2_d (u2_d (u1_6 hc_X11_sought_0 rfl) (u1_7 hc_X11_sought_0 rfl) rfl) rfl) rfl
theorem dX11_sought_8 : decode cX11_sought 8 = .ok (.iconst (-1), 1) := o_2 (u1_8 hc_X11_sought_0 rfl) rfl
theorem dX11_sought_9 : decode cX11_sought 9 = .ok (.ireturn, 1) := o_172 (u1_9 hc_X11_sought_0 rfl) rfl
theorem dX11_sought_10 : decode cX11_sought 10 = .ok (.aload_n 0, 1) := o_42 (u1_10 hc_X11_sought_0 rfl) rfl
theorem dX11_sought_11 : decode cX11_sought 11 = .ok (.getfield 64, 3) := o_180 (u1_11 hc_X11_sought_0 rfl) (u2_d (u1_12 hc_X11_sought_0 rfl) (u1_13 hc_X11_sought_0 rfl) rfl) rfl
theorem dX11_sought_14 : decode cX11_sought 14 = .ok (.ifnull 17, 3) := o_198 (u1_14 hc_X11_sought_0 rfl) (s2_d (u2_d (u1_15 hc_X11_sought_0 rfl) (u1_16 hc_X11_sought_0 rfl) rfl) rfl) rfl
theorem hc_X11_sought_16 : ((bL cX11_sought).drop 16).take 18 = [17, 27, 42, 180, 0, 64, 180, 1, 43, 184, 0, 91, 154, 0, 6, 16, 247, 172] := by decide +kernel
theorem dX11_sought_17 : decode cX11_sought 17 = .ok (.iload_n 1, 1) := o_27 (u1_1 hc_X11_sought_16 rfl) rfl
theorem dX11_sought_18 : decode cX11_sought 18 = .ok (.aload_n 0, 1) := o_42 (u1_2 hc_X11_sought_16 rfl) rfl
theorem dX11_sought_19 : decode cX11_sought 19 = .ok (.getfield 64, 3) := o_180 (u1_3 hc_X11_sought_16 rfl) (u2_d (u1_4 hc_X11_sought_16 rfl) (u1_5 hc_X11_sought_16 rfl) rfl) rfl
theorem dX11_sought_22 : decode cX11_sought 22 = .ok (.getfield 299, 3) := o_180 (u1_6 hc_X11_sought_16 rfl) (u2_d (u1_7 hc_X11_sought_16 rfl) (u1_8 hc_X11_sought_16 rfl) rfl) rfl
theorem dX11_sought_25 : decode cX11_sought 25 = .ok (.invokestatic 91, 3) := o_184 (u1_9 hc_X11_sought_16 rfl) (u2_d (u1_10 hc_X11_sought_16 rfl) (u1_11 hc_X11_sought_16 rfl) rfl) rfl
theorem dX11_sought_28 : decode cX11_sought 28 = .ok (.ifCond .ne 6, 3) := o_154 (u1_12 hc_X11_sought_16 rfl) (s2_d (u2_d (u1_13 hc_X11_sought_16 rfl) (u1_14 hc_X11_sought_16 rfl) rfl) rfl) rfl
theorem dX11_sought_31 : decode cX11_sought 31 = .ok (.bipush (-9), 2) := o_16 (u1_15 hc_X11_sought_16 rfl) (s1_d (u1_16 hc_X11_sought_16 rfl) rfl) rfl
theorem hc_X11_sought_32 : ((bL cX11_sought).drop 32).take 18 = [247, 172, 42, 180, 0, 64, 180, 1, 46, 27, 46, 28, 184, 1, 15, 172] := by decide +kernel
theorem dX11_sought_33 : decode cX11_sought 33 = .ok (.ireturn, 1) := o_172 (u1_1 hc_X11_sought_32 rfl) rfl
theorem dX11_sought_34 : decode cX11_sought 34 = .ok (.aload_n 0, 1) := o_42 (u1_2 hc_X11_sought_32 rfl) rfl
theorem dX11_sought_35 : decode cX11_sought 35 = .ok (.getfield 64, 3) := o_180 (u1_3 hc_X11_sought_32 rfl) (u2_d (u1_4 hc_X11_sought_32 rfl) (u1_5 hc_X11_sought_32 rfl) rfl) rfl
theorem dX11_sought_38 : decode cX11_sought 38 = .ok (.getfield 302, 3) := o_180 (u1_6 hc_X11_sought_32 rfl) (u2_d (u1_7 hc_X11_sought_32 rfl) (u1_8 hc_X11_sought_32 rfl) rfl) rfl
theorem dX11_sought_41 : decode cX11_sought 41 = .ok (.iload_n 1, 1) := o_27 (u1_9 hc_X11_sought_32 rfl) rfl
theorem dX11_sought_42 : decode cX11_sought 42 = .ok (.iaload, 1) := o_46 (u1_10 hc_X11_sought_32 rfl) rfl
theorem dX11_sought_43 : decode cX11_sought 43 = .ok (.iload_n 2, 1) := o_28 (u1_11 hc_X11_sought_32 rfl) rfl
theorem dX11_sought_44 : decode cX11_sought 44 = .ok (.invokestatic 271, 3) := o_184 (u1_12 hc_X11_sought_32 rfl) (u2_d (u1_13 hc_X11_sought_32 rfl) (u1_14 hc_X11_sought_32 rfl) rfl) rfl
theorem dX11_sought_47 : decode cX11_sought 47 = .ok (.ireturn, 1) := o_172 (u1_15 hc_X11_sought_32 rfl) rfl
theorem hc_X11_line_0 : ((bL cX11_line).drop 0).take 18 = [42, 180, 0, 10, 27, 182, 0, 109, 153, 0, 17, 28, 7, 184, 0, 91, 153, 0] := by decide +kernel
theorem dX11_line_0 : decode cX11_line 0 = .ok (.aload_n 0, 1) := o_42 (u1_0 hc_X11_line_0 rfl) rfl
theorem dX11_line_1 : decode cX11_line 1 = .ok (.getfield 10, 3) := o_180 (u1_1 hc_X11_line_0 rfl) (u2_d (u1_2 hc_X11_line_0 rfl) (u1_3 hc_X11_line_0 rfl) rfl) rfl
theorem dX11_line_4 : decode cX11_line 4 = .ok (.iload_n 1, 1) := o_27 (u1_4 hc_X11_line_0 rfl) rfl
theorem dX11_line_5 : decode cX11_line 5 = .ok (.invokevirtual 109, 3) := o_182 (u1_5 hc_X11_line_0 rfl) (u2_d (u1_6 hc_X11_line_0 rfl) (u1_7 hc_X11_line_0 rfl) rfl) rfl
theorem dX11_line_8 : decode cX11_line 8 = .ok (.ifCond .eq 17, 3) := o_153 (u1_8 hc_X11_line_0 rfl) (s2_d (u2_d (u1_9 hc_X11_line_0 rfl) (u1_10 hc_X11_line_0 rfl) rfl) rfl) rfl
theorem dX11_line_11 : decode cX11_line 11 = .ok (.iload_n 2, 1) := o_28 (u1_11 hc_X11_line_0 rfl) rfl
theorem dX11_line_12 : decode cX11_line 12 = .ok (.iconst 4, 1) := o_7 (u1_12 hc_X11_line_0 rfl) rfl
theorem dX11_line_13 : decode cX11_line 13 = .ok (.invokestatic 91, 3) := o_184 (u1_13 hc_X11_line_0 rfl) (u2_d (u1_14 hc_X11_line_0 rfl) (u1_15 hc_X11_line_0 rfl) rfl) rfl
theorem hc_X11_line_16 : ((bL cX11_line).drop 16).take 18 = [153, 0, 9, 29, 16, 12, 164, 0, 5, 2, 172, 29, 156, 0, 9, 42, 8, 182] := by decide +kernel
theorem dX11_line_16 : decode cX11_line 16 = .ok (.ifCond .eq 9, 3) := o_153 (u1_0 hc_X11_line_16 rfl) (s2_d (u2_d (u1_1 hc_X11_line_16 rfl) (u1_2 hc_X11_line_16 rfl) rfl) rfl) rfl
theorem dX11_line_19 : decode cX11_line 19 = .ok (.iload_n 3, 1) := o_29 (u1_3 hc_X11_line_16 rfl) rfl
theorem dX11_line_20 : decode cX11_line 20 = .ok (.bipush 12, 2) := o_16 (u1_4 hc_X11_line_16 rfl) (s1_d (u1_5 hc_X11_line_16 rfl) rfl) rfl
theorem dX11_line_22 : decode cX11_line 22 = .ok (.if_icmp .le 5, 3) := o_164 (u1_6 hc_X11_line_16 rfl) (s2_d (u2_d (u1_7 hc_X11_line_16 rfl) (u1_8 hc_X11_line_16 rfl) rfl) rfl) rfl
theorem dX11_line_25 : decode cX11_line 25 = .ok (.iconst (-1), 1) := o_2 (u1_9 hc_X11_line_16 rfl) rfl
theorem dX11_line_26 : decode cX11_line 26 = .ok (.ireturn, 1) := o_172 (u1_10 hc_X11_line_16 rfl) rfl
theorem dX11_line_27 : decode cX11_line 27 = .ok (.iload_n 3, 1) := o_29 (u1_11 hc_X11_line_16 rfl) rfl
theorem dX11_line_28 : decode cX11_line 28 = .ok (.ifCond .ge 9, 3) := o_156 (u1_12 hc_X11_line_16 rfl) (s2_d (u2_d (u1_13 hc_X11_line_16 rfl) (u1_14 hc_X11_line_16 rfl) rfl) rfl) rfl
theorem dX11_line_31 : decode cX11_line 31 = .ok (.aload_n 0, 1) := o_42 (u1_15 hc_X11_line_16 rfl) rfl
theorem hc_X11_line_32 : ((bL cX11_line).drop 32).take 18 = [8, 182, 0, 128, 172, 42, 180, 0, 53, 27, 28, 29, 182, 1, 48, 29, 172] := by decide +kernel
theorem dX11_line_32 : decode cX11_line 32 = .ok (.iconst 5, 1) := o_8 (u1_0 hc_X11_line_32 rfl) rfl
theorem dX11_line_33 : decode cX11_line 33 = .ok (.invokevirtual 128, 3) := o_182 (u1_1 hc_X11_line_32 rfl) (u2_d (u1_2 hc_X11_line_32 rfl) (u1_3 hc_X11_line_32 rfl) rfl) rfl
theorem dX11_line_36 : decode cX11_line 36 = .ok (.ireturn, 1) := o_172 (u1_4 hc_X11_line_32 rfl) rfl
theorem dX11_line_37 : decode cX11_line 37 = .ok (.aload_n 0, 1) := o_42 (u1_5 hc_X11_line_32 rfl) rfl
theorem dX11_line_38 : decode cX11_line 38 = .ok (.getfield 53, 3) := o_180 (u1_6 hc_X11_line_32 rfl) (u2_d (u1_7 hc_X11_line_32 rfl) (u1_8 hc_X11_line_32 rfl) rfl) rfl
theorem dX11_line_41 : decode cX11_line 41 = .ok (.iload_n 1, 1) := o_27 (u1_9 hc_X11_line_32 rfl) rfl
theorem dX11_line_42 : decode cX11_line 42 = .ok (.iload_n 2, 1) := o_28 (u1_10 hc_X11_line_32 rfl) rfl
theorem dX11_line_43 : decode cX11_line 43 = .ok (.iload_n 3, 1) := o_29 (u1_11 hc_X11_line_32 rfl) rfl
theorem dX11_line_44 : decode cX11_line 44 = .ok (.invokevirtual 304, 3) := o_182 (u1_12 hc_X11_line_32 rfl) (u2_d (u1_13 hc_X11_line_32 rfl) (u1_14 hc_X11_line_32 rfl) rfl) rfl
theorem dX11_line_47 : decode cX11_line 47 = .ok (.iload_n 3, 1) := o_29 (u1_15 hc_X11_line_32 rfl) rfl
theorem hc_X11_line_48 : ((bL cX11_line).drop 48).take 18 = [172] := by decide +kernel
theorem dX11_line_48 : decode cX11_line 48 = .ok (.ireturn, 1) := o_172 (u1_0 hc_X11_line_48 rfl) rfl
theorem hc_X11_put_0 : ((bL cX11_put).drop 0).take 18 = [42, 27, 28, 29, 182, 1, 52, 54, 6, 21, 6, 153, 0, 6, 21, 6, 172, 42] := by decide +kernel
theorem dX11_put_0 : decode cX11_put 0 = .ok (.aload_n 0, 1) := o_42 (u1_0 hc_X11_put_0 rfl) rfl
theorem dX11_put_1 : decode cX11_put 1 = .ok (.iload_n 1, 1) := o_27 (u1_1 hc_X11_put_0 rfl) rfl
theorem dX11_put_2 : decode cX11_put 2 = .ok (.iload_n 2, 1) := o_28 (u1_2 hc_X11_put_0 rfl) rfl
theorem dX11_put_3 : decode cX11_put 3 = .ok (.iload_n 3, 1) := o_29 (u1_3 hc_X11_put_0 rfl) rfl
theorem dX11_put_4 : decode cX11_put 4 = .ok (.invokevirtual 308, 3) := o_182 (u1_4 hc_X11_put_0 rfl) (u2_d (u1_5 hc_X11_put_0 rfl) (u1_6 hc_X11_put_0 rfl) rfl) rfl
theorem dX11_put_7 : decode cX11_put 7 = .ok (.istore 6, 2) := o_54 (u1_7 hc_X11_put_0 rfl) (u1_8 hc_X11_put_0 rfl) rfl
theorem dX11_put_9 : decode cX11_put 9 = .ok (.iload 6, 2) := o_21 (u1_9 hc_X11_put_0 rfl) (u1_10 hc_X11_put_0 rfl) rfl
theorem dX11_put_11 : decode cX11_put 11 = .ok (.ifCond .eq 6, 3) := o_153 (u1_11 hc_X11_put_0 rfl) (s2_d (u2_d (u1_12 hc_X11_put_0 rfl) (u1_13 hc_X11_put_0 rfl) rfl) rfl) rfl
theorem dX11_put_14 : decode cX11_put 14 = .ok (.iload 6, 2) := o_21 (u1_14 hc_X11_put_0 rfl) (u1_15 hc_X11_put_0 rfl) rfl
theorem hc_X11_put_16 : ((bL cX11_put).drop 16).take 18 = [172, 42, 180, 0, 53, 180, 1, 55, 27, 16, 12, 104, 29, 96, 42, 180, 0, 53] := by decide +kernel
theorem dX11_put_16 : decode cX11_put 16 = .ok (.ireturn, 1) := o_172 (u1_0 hc_X11_put_16 rfl) rfl
theorem dX11_put_17 : decode cX11_put 17 = .ok (.aload_n 0, 1) := o_42 (u1_1 hc_X11_put_16 rfl) rfl
theorem dX11_put_18 : decode cX11_put 18 = .ok (.getfield 53, 3) := o_180 (u1_2 hc_X11_put_16 rfl) (u2_d (u1_3 hc_X11_put_16 rfl) (u1_4 hc_X11_put_16 rfl) rfl) rfl
theorem dX11_put_21 : decode cX11_put 21 = .ok (.getfield 311, 3) := o_180 (u1_5 hc_X11_put_16 rfl) (u2_d (u1_6 hc_X11_put_16 rfl) (u1_7 hc_X11_put_16 rfl) rfl) rfl
theorem dX11_put_24 : decode cX11_put 24 = .ok (.iload_n 1, 1) := o_27 (u1_8 hc_X11_put_16 rfl) rfl
theorem dX11_put_25 : decode cX11_put 25 = .ok (.bipush 12, 2) := o_16 (u1_9 hc_X11_put_16 rfl) (s1_d (u1_10 hc_X11_put_16 rfl) rfl) rfl
theorem dX11_put_27 : decode cX11_put 27 = .ok (.imul, 1) := o_104 (u1_11 hc_X11_put_16 rfl) rfl
theorem dX11_put_28 : decode cX11_put 28 = .ok (.iload_n 3, 1) := o_29 (u1_12 hc_X11_put_16 rfl) rfl
theorem dX11_put_29 : decode cX11_put 29 = .ok (.iadd, 1) := o_96 (u1_13 hc_X11_put_16 rfl) rfl
theorem dX11_put_30 : decode cX11_put 30 = .ok (.aload_n 0, 1) := o_42 (u1_14 hc_X11_put_16 rfl) rfl
theorem dX11_put_31 : decode cX11_put 31 = .ok (.getfield 53, 3) := o_180 (u1_15 hc_X11_put_16 rfl) (u2_d (u1_16 hc_X11_put_16 rfl) (u1_17 hc_X11_put_16 rfl) rfl) rfl
theorem hc_X11_put_32 : ((bL cX11_put).drop 32).take 18 = [0, 53, 28, 22, 4, 182, 1, 59, 80, 4, 172] := by decide +kernel
theorem dX11_put_34 : decode cX11_put 34 = .ok (.iload_n 2, 1) := o_28 (u1_2 hc_X11_put_32 rfl) rfl
theorem dX11_put_35 : decode cX11_put 35 = .ok (.lload 4, 2) := o_22 (u1_3 hc_X11_put_32 rfl) (u1_4 hc_X11_put_32 rfl) rfl
theorem dX11_put_37 : decode cX11_put 37 = .ok (.invokevirtual 315, 3) := o_182 (u1_5 hc_X11_put_32 rfl) (u2_d (u1_6 hc_X11_put_32 rfl) (u1_7 hc_X11_put_32 rfl) rfl) rfl
theorem dX11_put_40 : decode cX11_put 40 = .ok (.lastore, 1) := o_80 (u1_8 hc_X11_put_32 rfl) rfl
theorem dX11_put_41 : decode cX11_put 41 = .ok (.iconst 1, 1) := o_4 (u1_9 hc_X11_put_32 rfl) rfl
theorem dX11_put_42 : decode cX11_put 42 = .ok (.ireturn, 1) := o_172 (u1_10 hc_X11_put_32 rfl) rfl
theorem hc_X11_item_0 : ((bL cX11_item).drop 0).take 18 = [42, 27, 28, 29, 182, 1, 52, 54, 4, 21, 4, 153, 0, 6, 21, 4, 172, 42] := by decide +kernel
theorem dX11_item_0 : decode cX11_item 0 = .ok (.aload_n 0, 1) := o_42 (u1_0 hc_X11_item_0 rfl) rfl
theorem dX11_item_1 : decode cX11_item 1 = .ok (.iload_n 1, 1) := o_27 (u1_1 hc_X11_item_0 rfl) rfl
theorem dX11_item_2 : decode cX11_item 2 = .ok (.iload_n 2, 1) := o_28 (u1_2 hc_X11_item_0 rfl) rfl
theorem dX11_item_3 : decode cX11_item 3 = .ok (.iload_n 3, 1) := o_29 (u1_3 hc_X11_item_0 rfl) rfl
theorem dX11_item_4 : decode cX11_item 4 = .ok (.invokevirtual 308, 3) := o_182 (u1_4 hc_X11_item_0 rfl) (u2_d (u1_5 hc_X11_item_0 rfl) (u1_6 hc_X11_item_0 rfl) rfl) rfl
theorem dX11_item_7 : decode cX11_item 7 = .ok (.istore 4, 2) := o_54 (u1_7 hc_X11_item_0 rfl) (u1_8 hc_X11_item_0 rfl) rfl
theorem dX11_item_9 : decode cX11_item 9 = .ok (.iload 4, 2) := o_21 (u1_9 hc_X11_item_0 rfl) (u1_10 hc_X11_item_0 rfl) rfl
theorem dX11_item_11 : decode cX11_item 11 = .ok (.ifCond .eq 6, 3) := o_153 (u1_11 hc_X11_item_0 rfl) (s2_d (u2_d (u1_12 hc_X11_item_0 rfl) (u1_13 hc_X11_item_0 rfl) rfl) rfl) rfl
theorem dX11_item_14 : decode cX11_item 14 = .ok (.iload 4, 2) := o_21 (u1_14 hc_X11_item_0 rfl) (u1_15 hc_X11_item_0 rfl) rfl
theorem hc_X11_item_16 : ((bL cX11_item).drop 16).take 18 = [172, 42, 42, 180, 0, 53, 180, 1, 55, 27, 16, 12, 104, 29, 96, 47, 181, 0] := by decide +kernel
theorem dX11_item_16 : decode cX11_item 16 = .ok (.ireturn, 1) := o_172 (u1_0 hc_X11_item_16 rfl) rfl
theorem dX11_item_17 : decode cX11_item 17 = .ok (.aload_n 0, 1) := o_42 (u1_1 hc_X11_item_16 rfl) rfl
theorem dX11_item_18 : decode cX11_item 18 = .ok (.aload_n 0, 1) := o_42 (u1_2 hc_X11_item_16 rfl) rfl
theorem dX11_item_19 : decode cX11_item 19 = .ok (.getfield 53, 3) := o_180 (u1_3 hc_X11_item_16 rfl) (u2_d (u1_4 hc_X11_item_16 rfl) (u1_5 hc_X11_item_16 rfl) rfl) rfl
theorem dX11_item_22 : decode cX11_item 22 = .ok (.getfield 311, 3) := o_180 (u1_6 hc_X11_item_16 rfl) (u2_d (u1_7 hc_X11_item_16 rfl) (u1_8 hc_X11_item_16 rfl) rfl) rfl
theorem dX11_item_25 : decode cX11_item 25 = .ok (.iload_n 1, 1) := o_27 (u1_9 hc_X11_item_16 rfl) rfl
theorem dX11_item_26 : decode cX11_item 26 = .ok (.bipush 12, 2) := o_16 (u1_10 hc_X11_item_16 rfl) (s1_d (u1_11 hc_X11_item_16 rfl) rfl) rfl
theorem dX11_item_28 : decode cX11_item 28 = .ok (.imul, 1) := o_104 (u1_12 hc_X11_item_16 rfl) rfl
theorem dX11_item_29 : decode cX11_item 29 = .ok (.iload_n 3, 1) := o_29 (u1_13 hc_X11_item_16 rfl) rfl
theorem dX11_item_30 : decode cX11_item 30 = .ok (.iadd, 1) := o_96 (u1_14 hc_X11_item_16 rfl) rfl
theorem dX11_item_31 : decode cX11_item 31 = .ok (.laload, 1) := o_47 (u1_15 hc_X11_item_16 rfl) rfl
theorem hc_X11_item_32 : ((bL cX11_item).drop 32).take 18 = [181, 0, 76, 4, 172] := by decide +kernel
theorem dX11_item_32 : decode cX11_item 32 = .ok (.putfield 76, 3) := o_181 (u1_0 hc_X11_item_32 rfl) (u2_d (u1_1 hc_X11_item_32 rfl) (u1_2 hc_X11_item_32 rfl) rfl) rfl
theorem dX11_item_35 : decode cX11_item 35 = .ok (.iconst 1, 1) := o_4 (u1_3 hc_X11_item_32 rfl) rfl
theorem dX11_item_36 : decode cX11_item 36 = .ok (.ireturn, 1) := o_172 (u1_4 hc_X11_item_32 rfl) rfl
theorem hc_X11_copy_0 : ((bL cX11_copy).drop 0).take 18 = [42, 180, 0, 10, 27, 182, 0, 109, 153, 0, 23, 42, 180, 0, 10, 21, 4, 182] := by decide +kernel
theorem dX11_copy_0 : decode cX11_copy 0 = .ok (.aload_n 0, 1) := o_42 (u1_0 hc_X11_copy_0 rfl) rfl
theorem dX11_copy_1 : decode cX11_copy 1 = .ok (.getfield 10, 3) := o_180 (u1_1 hc_X11_copy_0 rfl) (u2_d (u1_2 hc_X11_copy_0 rfl) (u1_3 hc_X11_copy_0 rfl) rfl) rfl
theorem dX11_copy_4 : decode cX11_copy 4 = .ok (.iload_n 1, 1) := o_27 (u1_4 hc_X11_copy_0 rfl) rfl
theorem dX11_copy_5 : decode cX11_copy 5 = .ok (.invokevirtual 109, 3) := o_182 (u1_5 hc_X11_copy_0 rfl) (u2_d (u1_6 hc_X11_copy_0 rfl) (u1_7 hc_X11_copy_0 rfl) rfl) rfl
theorem dX11_copy_8 : decode cX11_copy 8 = .ok (.ifCond .eq 23, 3) := o_153 (u1_8 hc_X11_copy_0 rfl) (s2_d (u2_d (u1_9 hc_X11_copy_0 rfl) (u1_10 hc_X11_copy_0 rfl) rfl) rfl) rfl
theorem dX11_copy_11 : decode cX11_copy 11 = .ok (.aload_n 0, 1) := o_42 (u1_11 hc_X11_copy_0 rfl) rfl
theorem dX11_copy_12 : decode cX11_copy 12 = .ok (.getfield 10, 3) := o_180 (u1_12 hc_X11_copy_0 rfl) (u2_d (u1_13 hc_X11_copy_0 rfl) (u1_14 hc_X11_copy_0 rfl) rfl) rfl
theorem dX11_copy_15 : decode cX11_copy 15 = .ok (.iload 4, 2) := o_21 (u1_15 hc_X11_copy_0 rfl) (u1_16 hc_X11_copy_0 rfl) rfl
theorem hc_X11_copy_16 : ((bL cX11_copy).drop 16).take 18 = [4, 182, 0, 109, 153, 0, 11, 28, 7, 184, 0, 91, 154, 0, 5, 2, 172, 42] := by decide +kernel
theorem dX11_copy_17 : decode cX11_copy 17 = .ok (.invokevirtual 109, 3) := o_182 (u1_1 hc_X11_copy_16 rfl) (u2_d (u1_2 hc_X11_copy_16 rfl) (u1_3 hc_X11_copy_16 rfl) rfl) rfl
theorem dX11_copy_20 : decode cX11_copy 20 = .ok (.ifCond .eq 11, 3) := o_153 (u1_4 hc_X11_copy_16 rfl) (s2_d (u2_d (u1_5 hc_X11_copy_16 rfl) (u1_6 hc_X11_copy_16 rfl) rfl) rfl) rfl
theorem dX11_copy_23 : decode cX11_copy 23 = .ok (.iload_n 2, 1) := o_28 (u1_7 hc_X11_copy_16 rfl) rfl
theorem dX11_copy_24 : decode cX11_copy 24 = .ok (.iconst 4, 1) := o_7 (u1_8 hc_X11_copy_16 rfl) rfl
theorem dX11_copy_25 : decode cX11_copy 25 = .ok (.invokestatic 91, 3) := o_184 (u1_9 hc_X11_copy_16 rfl) (u2_d (u1_10 hc_X11_copy_16 rfl) (u1_11 hc_X11_copy_16 rfl) rfl) rfl
theorem dX11_copy_28 : decode cX11_copy 28 = .ok (.ifCond .ne 5, 3) := o_154 (u1_12 hc_X11_copy_16 rfl) (s2_d (u2_d (u1_13 hc_X11_copy_16 rfl) (u1_14 hc_X11_copy_16 rfl) rfl) rfl) rfl
theorem dX11_copy_31 : decode cX11_copy 31 = .ok (.iconst (-1), 1) := o_2 (u1_15 hc_X11_copy_16 rfl) rfl
theorem hc_X11_copy_32 : ((bL cX11_copy).drop 32).take 18 = [172, 42, 180, 0, 53, 27, 28, 182, 1, 63, 154, 0, 16, 42, 180, 0, 53, 21] := by decide +kernel
theorem dX11_copy_32 : decode cX11_copy 32 = .ok (.ireturn, 1) := o_172 (u1_0 hc_X11_copy_32 rfl) rfl
theorem dX11_copy_33 : decode cX11_copy 33 = .ok (.aload_n 0, 1) := o_42 (u1_1 hc_X11_copy_32 rfl) rfl
theorem dX11_copy_34 : decode cX11_copy 34 = .ok (.getfield 53, 3) := o_180 (u1_2 hc_X11_copy_32 rfl) (u2_d (u1_3 hc_X11_copy_32 rfl) (u1_4 hc_X11_copy_32 rfl) rfl) rfl
theorem dX11_copy_37 : decode cX11_copy 37 = .ok (.iload_n 1, 1) := o_27 (u1_5 hc_X11_copy_32 rfl) rfl
theorem dX11_copy_38 : decode cX11_copy 38 = .ok (.iload_n 2, 1) := o_28 (u1_6 hc_X11_copy_32 rfl) rfl
theorem dX11_copy_39 : decode cX11_copy 39 = .ok (.invokevirtual 319, 3) := o_182 (u1_7 hc_X11_copy_32 rfl) (u2_d (u1_8 hc_X11_copy_32 rfl) (u1_9 hc_X11_copy_32 rfl) rfl) rfl
theorem dX11_copy_42 : decode cX11_copy 42 = .ok (.ifCond .ne 16, 3) := o_154 (u1_10 hc_X11_copy_32 rfl) (s2_d (u2_d (u1_11 hc_X11_copy_32 rfl) (u1_12 hc_X11_copy_32 rfl) rfl) rfl) rfl
theorem dX11_copy_45 : decode cX11_copy 45 = .ok (.aload_n 0, 1) := o_42 (u1_13 hc_X11_copy_32 rfl) rfl
theorem dX11_copy_46 : decode cX11_copy 46 = .ok (.getfield 53, 3) := o_180 (u1_14 hc_X11_copy_32 rfl) (u2_d (u1_15 hc_X11_copy_32 rfl) (u1_16 hc_X11_copy_32 rfl) rfl) rfl
theorem hc_X11_copy_48 : ((bL cX11_copy).drop 48).take 18 = [53, 21, 4, 28, 182, 1, 63, 153, 0, 9, 42, 6, 182, 0, 128, 172, 42, 180] := by decide +kernel
theorem dX11_copy_49 : decode cX11_copy 49 = .ok (.iload 4, 2) := o_21 (u1_1 hc_X11_copy_48 rfl) (u1_2 hc_X11_copy_48 rfl) rfl
theorem dX11_copy_51 : decode cX11_copy 51 = .ok (.iload_n 2, 1) := o_28 (u1_3 hc_X11_copy_48 rfl) rfl
theorem dX11_copy_52 : decode cX11_copy 52 = .ok (.invokevirtual 319, 3) := o_182 (u1_4 hc_X11_copy_48 rfl) (u2_d (u1_5 hc_X11_copy_48 rfl) (u1_6 hc_X11_copy_48 rfl) rfl) rfl
theorem dX11_copy_55 : decode cX11_copy 55 = .ok (.ifCond .eq 9, 3) := o_153 (u1_7 hc_X11_copy_48 rfl) (s2_d (u2_d (u1_8 hc_X11_copy_48 rfl) (u1_9 hc_X11_copy_48 rfl) rfl) rfl) rfl
theorem dX11_copy_58 : decode cX11_copy 58 = .ok (.aload_n 0, 1) := o_42 (u1_10 hc_X11_copy_48 rfl) rfl
theorem dX11_copy_59 : decode cX11_copy 59 = .ok (.iconst 3, 1) := o_6 (u1_11 hc_X11_copy_48 rfl) rfl
theorem dX11_copy_60 : decode cX11_copy 60 = .ok (.invokevirtual 128, 3) := o_182 (u1_12 hc_X11_copy_48 rfl) (u2_d (u1_13 hc_X11_copy_48 rfl) (u1_14 hc_X11_copy_48 rfl) rfl) rfl
theorem dX11_copy_63 : decode cX11_copy 63 = .ok (.ireturn, 1) := o_172 (u1_15 hc_X11_copy_48 rfl) rfl
theorem hc_X11_copy_64 : ((bL cX11_copy).drop 64).take 18 = [42, 180, 0, 53, 180, 1, 66, 27, 46, 16, 247, 159, 0, 18, 42, 180, 0, 53] := by decide +kernel
theorem dX11_copy_64 : decode cX11_copy 64 = .ok (.aload_n 0, 1) := o_42 (u1_0 hc_X11_copy_64 rfl) rfl
theorem dX11_copy_65 : decode cX11_copy 65 = .ok (.getfield 53, 3) := o_180 (u1_1 hc_X11_copy_64 rfl) (u2_d (u1_2 hc_X11_copy_64 rfl) (u1_3 hc_X11_copy_64 rfl) rfl) rfl
theorem dX11_copy_68 : decode cX11_copy 68 = .ok (.getfield 322, 3) := o_180 (u1_4 hc_X11_copy_64 rfl) (u2_d (u1_5 hc_X11_copy_64 rfl) (u1_6 hc_X11_copy_64 rfl) rfl) rfl
theorem dX11_copy_71 : decode cX11_copy 71 = .ok (.iload_n 1, 1) := o_27 (u1_7 hc_X11_copy_64 rfl) rfl
theorem dX11_copy_72 : decode cX11_copy 72 = .ok (.iaload, 1) := o_46 (u1_8 hc_X11_copy_64 rfl) rfl
theorem dX11_copy_73 : decode cX11_copy 73 = .ok (.bipush (-9), 2) := o_16 (u1_9 hc_X11_copy_64 rfl) (s1_d (u1_10 hc_X11_copy_64 rfl) rfl) rfl
theorem dX11_copy_75 : decode cX11_copy 75 = .ok (.if_icmp .eq 18, 3) := o_159 (u1_11 hc_X11_copy_64 rfl) (s2_d (u2_d (u1_12 hc_X11_copy_64 rfl) (u1_13 hc_X11_copy_64 rfl) rfl) rfl) rfl
theorem dX11_copy_78 : decode cX11_copy 78 = .ok (.aload_n 0, 1) := o_42 (u1_14 hc_X11_copy_64 rfl) rfl
theorem dX11_copy_79 : decode cX11_copy 79 = .ok (.getfield 53, 3) := o_180 (u1_15 hc_X11_copy_64 rfl) (u2_d (u1_16 hc_X11_copy_64 rfl) (u1_17 hc_X11_copy_64 rfl) rfl) rfl
theorem hc_X11_copy_80 : ((bL cX11_copy).drop 80).take 18 = [0, 53, 180, 1, 66, 21, 4, 46, 16, 247, 160, 0, 9, 42, 4, 182, 0, 128] := by decide +kernel
theorem dX11_copy_82 : decode cX11_copy 82 = .ok (.getfield 322, 3) := o_180 (u1_2 hc_X11_copy_80 rfl) (u2_d (u1_3 hc_X11_copy_80 rfl) (u1_4 hc_X11_copy_80 rfl) rfl) rfl
theorem dX11_copy_85 : decode cX11_copy 85 = .ok (.iload 4, 2) := o_21 (u1_5 hc_X11_copy_80 rfl) (u1_6 hc_X11_copy_80 rfl) rfl
theorem dX11_copy_87 : decode cX11_copy 87 = .ok (.iaload, 1) := o_46 (u1_7 hc_X11_copy_80 rfl) rfl
theorem dX11_copy_88 : decode cX11_copy 88 = .ok (.bipush (-9), 2) := o_16 (u1_8 hc_X11_copy_80 rfl) (s1_d (u1_9 hc_X11_copy_80 rfl) rfl) rfl
theorem dX11_copy_90 : decode cX11_copy 90 = .ok (.if_icmp .ne 9, 3) := o_160 (u1_10 hc_X11_copy_80 rfl) (s2_d (u2_d (u1_11 hc_X11_copy_80 rfl) (u1_12 hc_X11_copy_80 rfl) rfl) rfl) rfl
theorem dX11_copy_93 : decode cX11_copy 93 = .ok (.aload_n 0, 1) := o_42 (u1_13 hc_X11_copy_80 rfl) rfl
theorem dX11_copy_94 : decode cX11_copy 94 = .ok (.iconst 1, 1) := o_4 (u1_14 hc_X11_copy_80 rfl) rfl
theorem dX11_copy_95 : decode cX11_copy 95 = .ok (.invokevirtual 128, 3) := o_182 (u1_15 hc_X11_copy_80 rfl) (u2_d (u1_16 hc_X11_copy_80 rfl) (u1_17 hc_X11_copy_80 rfl) rfl) rfl
theorem hc_X11_copy_96 : ((bL cX11_copy).drop 96).take 18 = [0, 128, 172, 42, 180, 0, 53, 27, 29, 21, 6, 182, 1, 69, 153, 0, 19, 42] := by decide +kernel
theorem dX11_copy_98 : decode cX11_copy 98 = .ok (.ireturn, 1) := o_172 (u1_2 hc_X11_copy_96 rfl) rfl
theorem dX11_copy_99 : decode cX11_copy 99 = .ok (.aload_n 0, 1) := o_42 (u1_3 hc_X11_copy_96 rfl) rfl
theorem dX11_copy_100 : decode cX11_copy 100 = .ok (.getfield 53, 3) := o_180 (u1_4 hc_X11_copy_96 rfl) (u2_d (u1_5 hc_X11_copy_96 rfl) (u1_6 hc_X11_copy_96 rfl) rfl) rfl
theorem dX11_copy_103 : decode cX11_copy 103 = .ok (.iload_n 1, 1) := o_27 (u1_7 hc_X11_copy_96 rfl) rfl
theorem dX11_copy_104 : decode cX11_copy 104 = .ok (.iload_n 3, 1) := o_29 (u1_8 hc_X11_copy_96 rfl) rfl
theorem dX11_copy_105 : decode cX11_copy 105 = .ok (.iload 6, 2) := o_21 (u1_9 hc_X11_copy_96 rfl) (u1_10 hc_X11_copy_96 rfl) rfl
theorem dX11_copy_107 : decode cX11_copy 107 = .ok (.invokevirtual 325, 3) := o_182 (u1_11 hc_X11_copy_96 rfl) (u2_d (u1_12 hc_X11_copy_96 rfl) (u1_13 hc_X11_copy_96 rfl) rfl) rfl
theorem dX11_copy_110 : decode cX11_copy 110 = .ok (.ifCond .eq 19, 3) := o_153 (u1_14 hc_X11_copy_96 rfl) (s2_d (u2_d (u1_15 hc_X11_copy_96 rfl) (u1_16 hc_X11_copy_96 rfl) rfl) rfl) rfl
theorem hc_X11_copy_112 : ((bL cX11_copy).drop 112).take 18 = [19, 42, 180, 0, 53, 21, 4, 21, 5, 21, 6, 182, 1, 69, 154, 0, 9, 42] := by decide +kernel
theorem dX11_copy_113 : decode cX11_copy 113 = .ok (.aload_n 0, 1) := o_42 (u1_1 hc_X11_copy_112 rfl) rfl
theorem dX11_copy_114 : decode cX11_copy 114 = .ok (.getfield 53, 3) := o_180 (u1_2 hc_X11_copy_112 rfl) (u2_d (u1_3 hc_X11_copy_112 rfl) (u1_4 hc_X11_copy_112 rfl) rfl) rfl
theorem dX11_copy_117 : decode cX11_copy 117 = .ok (.iload 4, 2) := o_21 (u1_5 hc_X11_copy_112 rfl) (u1_6 hc_X11_copy_112 rfl) rfl
theorem dX11_copy_119 : decode cX11_copy 119 = .ok (.iload 5, 2) := o_21 (u1_7 hc_X11_copy_112 rfl) (u1_8 hc_X11_copy_112 rfl) rfl
theorem dX11_copy_121 : decode cX11_copy 121 = .ok (.iload 6, 2) := o_21 (u1_9 hc_X11_copy_112 rfl) (u1_10 hc_X11_copy_112 rfl) rfl
theorem dX11_copy_123 : decode cX11_copy 123 = .ok (.invokevirtual 325, 3) := o_182 (u1_11 hc_X11_copy_112 rfl) (u2_d (u1_12 hc_X11_copy_112 rfl) (u1_13 hc_X11_copy_112 rfl) rfl) rfl
theorem dX11_copy_126 : decode cX11_copy 126 = .ok (.ifCond .ne 9, 3) := o_154 (u1_14 hc_X11_copy_112 rfl) (s2_d (u2_d (u1_15 hc_X11_copy_112 rfl) (u1_16 hc_X11_copy_112 rfl) rfl) rfl) rfl
theorem hc_X11_copy_128 : ((bL cX11_copy).drop 128).take 18 = [9, 42, 5, 182, 0, 128, 172, 42, 180, 0, 53, 180, 1, 55, 27, 16, 12, 104] := by decide +kernel
theorem dX11_copy_129 : decode cX11_copy 129 = .ok (.aload_n 0, 1) := o_42 (u1_1 hc_X11_copy_128 rfl) rfl
theorem dX11_copy_130 : decode cX11_copy 130 = .ok (.iconst 2, 1) := o_5 (u1_2 hc_X11_copy_128 rfl) rfl
theorem dX11_copy_131 : decode cX11_copy 131 = .ok (.invokevirtual 128, 3) := o_182 (u1_3 hc_X11_copy_128 rfl) (u2_d (u1_4 hc_X11_copy_128 rfl) (u1_5 hc_X11_copy_128 rfl) rfl) rfl
theorem dX11_copy_134 : decode cX11_copy 134 = .ok (.ireturn, 1) := o_172 (u1_6 hc_X11_copy_128 rfl) rfl
theorem dX11_copy_135 : decode cX11_copy 135 = .ok (.aload_n 0, 1) := o_42 (u1_7 hc_X11_copy_128 rfl) rfl
theorem dX11_copy_136 : decode cX11_copy 136 = .ok (.getfield 53, 3) := o_180 (u1_8 hc_X11_copy_128 rfl) (u2_d (u1_9 hc_X11_copy_128 rfl) (u1_10 hc_X11_copy_128 rfl) rfl) rfl
theorem dX11_copy_139 : decode cX11_copy 139 = .ok (.getfield 311, 3) := o_180 (u1_11 hc_X11_copy_128 rfl) (u2_d (u1_12 hc_X11_copy_128 rfl) (u1_13 hc_X11_copy_128 rfl) rfl) rfl
theorem dX11_copy_142 : decode cX11_copy 142 = .ok (.iload_n 1, 1) := o_27 (u1_14 hc_X11_copy_128 rfl) rfl
theorem dX11_copy_143 : decode cX11_copy 143 = .ok (.bipush 12, 2) := o_16 (u1_15 hc_X11_copy_128 rfl) (s1_d (u1_16 hc_X11_copy_128 rfl) rfl) rfl
theorem hc_X11_copy_144 : ((bL cX11_copy).drop 144).take 18 = [12, 104, 29, 96, 42, 180, 0, 53, 180, 1, 55, 21, 4, 16, 12, 104, 21, 5] := by decide +kernel
theorem dX11_copy_145 : decode cX11_copy 145 = .ok (.imul, 1) := o_104 (u1_1 hc_X11_copy_144 rfl) rfl
theorem dX11_copy_146 : decode cX11_copy 146 = .ok (.iload_n 3, 1) := o_29 (u1_2 hc_X11_copy_144 rfl) rfl
theorem dX11_copy_147 : decode cX11_copy 147 = .ok (.iadd, 1) := o_96 (u1_3 hc_X11_copy_144 rfl) rfl
theorem dX11_copy_148 : decode cX11_copy 148 = .ok (.aload_n 0, 1) := o_42 (u1_4 hc_X11_copy_144 rfl) rfl
theorem dX11_copy_149 : decode cX11_copy 149 = .ok (.getfield 53, 3) := o_180 (u1_5 hc_X11_copy_144 rfl) (u2_d (u1_6 hc_X11_copy_144 rfl) (u1_7 hc_X11_copy_144 rfl) rfl) rfl
theorem dX11_copy_152 : decode cX11_copy 152 = .ok (.getfield 311, 3) := o_180 (u1_8 hc_X11_copy_144 rfl) (u2_d (u1_9 hc_X11_copy_144 rfl) (u1_10 hc_X11_copy_144 rfl) rfl) rfl
theorem dX11_copy_155 : decode cX11_copy 155 = .ok (.iload 4, 2) := o_21 (u1_11 hc_X11_copy_144 rfl) (u1_12 hc_X11_copy_144 rfl) rfl
theorem dX11_copy_157 : decode cX11_copy 157 = .ok (.bipush 12, 2) := o_16 (u1_13 hc_X11_copy_144 rfl) (s1_d (u1_14 hc_X11_copy_144 rfl) rfl) rfl
theorem dX11_copy_159 : decode cX11_copy 159 = .ok (.imul, 1) := o_104 (u1_15 hc_X11_copy_144 rfl) rfl
theorem hc_X11_copy_160 : ((bL cX11_copy).drop 160).take 18 = [21, 5, 96, 21, 6, 184, 1, 72, 4, 172] := by decide +kernel
theorem dX11_copy_160 : decode cX11_copy 160 = .ok (.iload 5, 2) := o_21 (u1_0 hc_X11_copy_160 rfl) (u1_1 hc_X11_copy_160 rfl) rfl
theorem dX11_copy_162 : decode cX11_copy 162 = .ok (.iadd, 1) := o_96 (u1_2 hc_X11_copy_160 rfl) rfl
theorem dX11_copy_163 : decode cX11_copy 163 = .ok (.iload 6, 2) := o_21 (u1_3 hc_X11_copy_160 rfl) (u1_4 hc_X11_copy_160 rfl) rfl
theorem dX11_copy_165 : decode cX11_copy 165 = .ok (.invokestatic 328, 3) := o_184 (u1_5 hc_X11_copy_160 rfl) (u2_d (u1_6 hc_X11_copy_160 rfl) (u1_7 hc_X11_copy_160 rfl) rfl) rfl
theorem dX11_copy_168 : decode cX11_copy 168 = .ok (.iconst 1, 1) := o_4 (u1_8 hc_X11_copy_160 rfl) rfl
theorem dX11_copy_169 : decode cX11_copy 169 = .ok (.ireturn, 1) := o_172 (u1_9 hc_X11_copy_160 rfl) rfl
theorem hc_X11_cast_0 : ((bL cX11_cast).drop 0).take 18 = [27, 4, 161, 0, 14, 27, 8, 163, 0, 9, 28, 16, 12, 164, 0, 5, 2, 172] := by decide +kernel
theorem dX11_cast_0 : decode cX11_cast 0 = .ok (.iload_n 1, 1) := o_27 (u1_0 hc_X11_cast_0 rfl) rfl
theorem dX11_cast_1 : decode cX11_cast 1 = .ok (.iconst 1, 1) := o_4 (u1_1 hc_X11_cast_0 rfl) rfl
theorem dX11_cast_2 : decode cX11_cast 2 = .ok (.if_icmp .lt 14, 3) := o_161 (u1_2 hc_X11_cast_0 rfl) (s2_d (u2_d (u1_3 hc_X11_cast_0 rfl) (u1_4 hc_X11_cast_0 rfl) rfl) rfl) rfl
theorem dX11_cast_5 : decode cX11_cast 5 = .ok (.iload_n 1, 1) := o_27 (u1_5 hc_X11_cast_0 rfl) rfl
theorem dX11_cast_6 : decode cX11_cast 6 = .ok (.iconst 5, 1) := o_8 (u1_6 hc_X11_cast_0 rfl) rfl
theorem dX11_cast_7 : decode cX11_cast 7 = .ok (.if_icmp .gt 9, 3) := o_163 (u1_7 hc_X11_cast_0 rfl) (s2_d (u2_d (u1_8 hc_X11_cast_0 rfl) (u1_9 hc_X11_cast_0 rfl) rfl) rfl) rfl
theorem dX11_cast_10 : decode cX11_cast 10 = .ok (.iload_n 2, 1) := o_28 (u1_10 hc_X11_cast_0 rfl) rfl
theorem dX11_cast_11 : decode cX11_cast 11 = .ok (.bipush 12, 2) := o_16 (u1_11 hc_X11_cast_0 rfl) (s1_d (u1_12 hc_X11_cast_0 rfl) rfl) rfl
theorem dX11_cast_13 : decode cX11_cast 13 = .ok (.if_icmp .le 5, 3) := o_164 (u1_13 hc_X11_cast_0 rfl) (s2_d (u2_d (u1_14 hc_X11_cast_0 rfl) (u1_15 hc_X11_cast_0 rfl) rfl) rfl) rfl
theorem hc_X11_cast_16 : ((bL cX11_cast).drop 16).take 18 = [2, 172, 42, 180, 0, 60, 180, 1, 78, 16, 10, 161, 0, 6, 16, 254, 172, 28] := by decide +kernel
theorem dX11_cast_16 : decode cX11_cast 16 = .ok (.iconst (-1), 1) := o_2 (u1_0 hc_X11_cast_16 rfl) rfl
theorem dX11_cast_17 : decode cX11_cast 17 = .ok (.ireturn, 1) := o_172 (u1_1 hc_X11_cast_16 rfl) rfl
theorem dX11_cast_18 : decode cX11_cast 18 = .ok (.aload_n 0, 1) := o_42 (u1_2 hc_X11_cast_16 rfl) rfl
theorem dX11_cast_19 : decode cX11_cast 19 = .ok (.getfield 60, 3) := o_180 (u1_3 hc_X11_cast_16 rfl) (u2_d (u1_4 hc_X11_cast_16 rfl) (u1_5 hc_X11_cast_16 rfl) rfl) rfl
theorem dX11_cast_22 : decode cX11_cast 22 = .ok (.getfield 334, 3) := o_180 (u1_6 hc_X11_cast_16 rfl) (u2_d (u1_7 hc_X11_cast_16 rfl) (u1_8 hc_X11_cast_16 rfl) rfl) rfl
theorem dX11_cast_25 : decode cX11_cast 25 = .ok (.bipush 10, 2) := o_16 (u1_9 hc_X11_cast_16 rfl) (s1_d (u1_10 hc_X11_cast_16 rfl) rfl) rfl
theorem dX11_cast_27 : decode cX11_cast 27 = .ok (.if_icmp .lt 6, 3) := o_161 (u1_11 hc_X11_cast_16 rfl) (s2_d (u2_d (u1_12 hc_X11_cast_16 rfl) (u1_13 hc_X11_cast_16 rfl) rfl) rfl) rfl
theorem dX11_cast_30 : decode cX11_cast 30 = .ok (.bipush (-2), 2) := o_16 (u1_14 hc_X11_cast_16 rfl) (s1_d (u1_15 hc_X11_cast_16 rfl) rfl) rfl
theorem hc_X11_cast_32 : ((bL cX11_cast).drop 32).take 18 = [172, 28, 156, 0, 9, 42, 8, 182, 0, 128, 172, 42, 180, 0, 60, 27, 28, 182] := by decide +kernel
theorem dX11_cast_32 : decode cX11_cast 32 = .ok (.ireturn, 1) := o_172 (u1_0 hc_X11_cast_32 rfl) rfl
theorem dX11_cast_33 : decode cX11_cast 33 = .ok (.iload_n 2, 1) := o_28 (u1_1 hc_X11_cast_32 rfl) rfl
theorem dX11_cast_34 : decode cX11_cast 34 = .ok (.ifCond .ge 9, 3) := o_156 (u1_2 hc_X11_cast_32 rfl) (s2_d (u2_d (u1_3 hc_X11_cast_32 rfl) (u1_4 hc_X11_cast_32 rfl) rfl) rfl) rfl
theorem dX11_cast_37 : decode cX11_cast 37 = .ok (.aload_n 0, 1) := o_42 (u1_5 hc_X11_cast_32 rfl) rfl
theorem dX11_cast_38 : decode cX11_cast 38 = .ok (.iconst 5, 1) := o_8 (u1_6 hc_X11_cast_32 rfl) rfl
theorem dX11_cast_39 : decode cX11_cast 39 = .ok (.invokevirtual 128, 3) := o_182 (u1_7 hc_X11_cast_32 rfl) (u2_d (u1_8 hc_X11_cast_32 rfl) (u1_9 hc_X11_cast_32 rfl) rfl) rfl
theorem dX11_cast_42 : decode cX11_cast 42 = .ok (.ireturn, 1) := o_172 (u1_10 hc_X11_cast_32 rfl) rfl
theorem dX11_cast_43 : decode cX11_cast 43 = .ok (.aload_n 0, 1) := o_42 (u1_11 hc_X11_cast_32 rfl) rfl
theorem dX11_cast_44 : decode cX11_cast 44 = .ok (.getfield 60, 3) := o_180 (u1_12 hc_X11_cast_32 rfl) (u2_d (u1_13 hc_X11_cast_32 rfl) (u1_14 hc_X11_cast_32 rfl) rfl) rfl
theorem dX11_cast_47 : decode cX11_cast 47 = .ok (.iload_n 1, 1) := o_27 (u1_15 hc_X11_cast_32 rfl) rfl
theorem hc_X11_cast_48 : ((bL cX11_cast).drop 48).take 18 = [28, 182, 1, 81, 172] := by decide +kernel
theorem dX11_cast_48 : decode cX11_cast 48 = .ok (.iload_n 2, 1) := o_28 (u1_0 hc_X11_cast_48 rfl) rfl
theorem dX11_cast_49 : decode cX11_cast 49 = .ok (.invokevirtual 337, 3) := o_182 (u1_1 hc_X11_cast_48 rfl) (u2_d (u1_2 hc_X11_cast_48 rfl) (u1_3 hc_X11_cast_48 rfl) rfl) rfl
theorem dX11_cast_52 : decode cX11_cast 52 = .ok (.ireturn, 1) := o_172 (u1_4 hc_X11_cast_48 rfl) rfl
theorem hc_X11_role_0 : ((bL cX11_role).drop 0).take 18 = [27, 42, 180, 0, 60, 180, 1, 78, 184, 0, 91, 153, 0, 20, 29, 16, 247, 159] := by decide +kernel
theorem dX11_role_0 : decode cX11_role 0 = .ok (.iload_n 1, 1) := o_27 (u1_0 hc_X11_role_0 rfl) rfl
theorem dX11_role_1 : decode cX11_role 1 = .ok (.aload_n 0, 1) := o_42 (u1_1 hc_X11_role_0 rfl) rfl
theorem dX11_role_2 : decode cX11_role 2 = .ok (.getfield 60, 3) := o_180 (u1_2 hc_X11_role_0 rfl) (u2_d (u1_3 hc_X11_role_0 rfl) (u1_4 hc_X11_role_0 rfl) rfl) rfl
theorem dX11_role_5 : decode cX11_role 5 = .ok (.getfield 334, 3) := o_180 (u1_5 hc_X11_role_0 rfl) (u2_d (u1_6 hc_X11_role_0 rfl) (u1_7 hc_X11_role_0 rfl) rfl) rfl
theorem dX11_role_8 : decode cX11_role 8 = .ok (.invokestatic 91, 3) := o_184 (u1_8 hc_X11_role_0 rfl) (u2_d (u1_9 hc_X11_role_0 rfl) (u1_10 hc_X11_role_0 rfl) rfl) rfl
theorem dX11_role_11 : decode cX11_role 11 = .ok (.ifCond .eq 20, 3) := o_153 (u1_11 hc_X11_role_0 rfl) (s2_d (u2_d (u1_12 hc_X11_role_0 rfl) (u1_13 hc_X11_role_0 rfl) rfl) rfl) rfl
theorem dX11_role_14 : decode cX11_role 14 = .ok (.iload_n 3, 1) := o_29 (u1_14 hc_X11_role_0 rfl) rfl
theorem dX11_role_15 : decode cX11_role 15 = .ok (.bipush (-9), 2) := o_16 (u1_15 hc_X11_role_0 rfl) (s1_d (u1_16 hc_X11_role_0 rfl) rfl) rfl
theorem hc_X11_role_16 : ((bL cX11_role).drop 16).take 18 = [247, 159, 0, 16, 42, 180, 0, 10, 29, 182, 0, 109, 154, 0, 5, 2, 172, 29] := by decide +kernel
theorem dX11_role_17 : decode cX11_role 17 = .ok (.if_icmp .eq 16, 3) := o_159 (u1_1 hc_X11_role_16 rfl) (s2_d (u2_d (u1_2 hc_X11_role_16 rfl) (u1_3 hc_X11_role_16 rfl) rfl) rfl) rfl
theorem dX11_role_20 : decode cX11_role 20 = .ok (.aload_n 0, 1) := o_42 (u1_4 hc_X11_role_16 rfl) rfl
theorem dX11_role_21 : decode cX11_role 21 = .ok (.getfield 10, 3) := o_180 (u1_5 hc_X11_role_16 rfl) (u2_d (u1_6 hc_X11_role_16 rfl) (u1_7 hc_X11_role_16 rfl) rfl) rfl
theorem dX11_role_24 : decode cX11_role 24 = .ok (.iload_n 3, 1) := o_29 (u1_8 hc_X11_role_16 rfl) rfl
theorem dX11_role_25 : decode cX11_role 25 = .ok (.invokevirtual 109, 3) := o_182 (u1_9 hc_X11_role_16 rfl) (u2_d (u1_10 hc_X11_role_16 rfl) (u1_11 hc_X11_role_16 rfl) rfl) rfl
theorem dX11_role_28 : decode cX11_role 28 = .ok (.ifCond .ne 5, 3) := o_154 (u1_12 hc_X11_role_16 rfl) (s2_d (u2_d (u1_13 hc_X11_role_16 rfl) (u1_14 hc_X11_role_16 rfl) rfl) rfl) rfl
theorem dX11_role_31 : decode cX11_role 31 = .ok (.iconst (-1), 1) := o_2 (u1_15 hc_X11_role_16 rfl) rfl
theorem hc_X11_role_32 : ((bL cX11_role).drop 32).take 18 = [172, 29, 16, 247, 159, 0, 20, 42, 180, 0, 10, 29, 182, 0, 125, 154, 0, 9] := by decide +kernel
theorem dX11_role_32 : decode cX11_role 32 = .ok (.ireturn, 1) := o_172 (u1_0 hc_X11_role_32 rfl) rfl
theorem dX11_role_33 : decode cX11_role 33 = .ok (.iload_n 3, 1) := o_29 (u1_1 hc_X11_role_32 rfl) rfl
theorem dX11_role_34 : decode cX11_role 34 = .ok (.bipush (-9), 2) := o_16 (u1_2 hc_X11_role_32 rfl) (s1_d (u1_3 hc_X11_role_32 rfl) rfl) rfl
theorem dX11_role_36 : decode cX11_role 36 = .ok (.if_icmp .eq 20, 3) := o_159 (u1_4 hc_X11_role_32 rfl) (s2_d (u2_d (u1_5 hc_X11_role_32 rfl) (u1_6 hc_X11_role_32 rfl) rfl) rfl) rfl
theorem dX11_role_39 : decode cX11_role 39 = .ok (.aload_n 0, 1) := o_42 (u1_7 hc_X11_role_32 rfl) rfl
theorem dX11_role_40 : decode cX11_role 40 = .ok (.getfield 10, 3) := o_180 (u1_8 hc_X11_role_32 rfl) (u2_d (u1_9 hc_X11_role_32 rfl) (u1_10 hc_X11_role_32 rfl) rfl) rfl
theorem dX11_role_43 : decode cX11_role 43 = .ok (.iload_n 3, 1) := o_29 (u1_11 hc_X11_role_32 rfl) rfl
theorem dX11_role_44 : decode cX11_role 44 = .ok (.invokevirtual 125, 3) := o_182 (u1_12 hc_X11_role_32 rfl) (u2_d (u1_13 hc_X11_role_32 rfl) (u1_14 hc_X11_role_32 rfl) rfl) rfl
theorem dX11_role_47 : decode cX11_role 47 = .ok (.ifCond .ne 9, 3) := o_154 (u1_15 hc_X11_role_32 rfl) (s2_d (u2_d (u1_16 hc_X11_role_32 rfl) (u1_17 hc_X11_role_32 rfl) rfl) rfl) rfl
theorem hc_X11_role_48 : ((bL cX11_role).drop 48).take 18 = [0, 9, 42, 6, 182, 0, 128, 172, 28, 42, 180, 0, 60, 180, 1, 84, 27, 46] := by decide +kernel
theorem dX11_role_50 : decode cX11_role 50 = .ok (.aload_n 0, 1) := o_42 (u1_2 hc_X11_role_48 rfl) rfl
theorem dX11_role_51 : decode cX11_role 51 = .ok (.iconst 3, 1) := o_6 (u1_3 hc_X11_role_48 rfl) rfl
theorem dX11_role_52 : decode cX11_role 52 = .ok (.invokevirtual 128, 3) := o_182 (u1_4 hc_X11_role_48 rfl) (u2_d (u1_5 hc_X11_role_48 rfl) (u1_6 hc_X11_role_48 rfl) rfl) rfl
theorem dX11_role_55 : decode cX11_role 55 = .ok (.ireturn, 1) := o_172 (u1_7 hc_X11_role_48 rfl) rfl
theorem dX11_role_56 : decode cX11_role 56 = .ok (.iload_n 2, 1) := o_28 (u1_8 hc_X11_role_48 rfl) rfl
theorem dX11_role_57 : decode cX11_role 57 = .ok (.aload_n 0, 1) := o_42 (u1_9 hc_X11_role_48 rfl) rfl
theorem dX11_role_58 : decode cX11_role 58 = .ok (.getfield 60, 3) := o_180 (u1_10 hc_X11_role_48 rfl) (u2_d (u1_11 hc_X11_role_48 rfl) (u1_12 hc_X11_role_48 rfl) rfl) rfl
theorem dX11_role_61 : decode cX11_role 61 = .ok (.getfield 340, 3) := o_180 (u1_13 hc_X11_role_48 rfl) (u2_d (u1_14 hc_X11_role_48 rfl) (u1_15 hc_X11_role_48 rfl) rfl) rfl
theorem hc_X11_role_64 : ((bL cX11_role).drop 64).take 18 = [27, 46, 184, 0, 91, 154, 0, 9, 42, 5, 182, 0, 128, 172, 29, 16, 247, 159] := by decide +kernel
theorem dX11_role_64 : decode cX11_role 64 = .ok (.iload_n 1, 1) := o_27 (u1_0 hc_X11_role_64 rfl) rfl
theorem dX11_role_65 : decode cX11_role 65 = .ok (.iaload, 1) := o_46 (u1_1 hc_X11_role_64 rfl) rfl
theorem dX11_role_66 : decode cX11_role 66 = .ok (.invokestatic 91, 3) := o_184 (u1_2 hc_X11_role_64 rfl) (u2_d (u1_3 hc_X11_role_64 rfl) (u1_4 hc_X11_role_64 rfl) rfl) rfl
theorem dX11_role_69 : decode cX11_role 69 = .ok (.ifCond .ne 9, 3) := o_154 (u1_5 hc_X11_role_64 rfl) (s2_d (u2_d (u1_6 hc_X11_role_64 rfl) (u1_7 hc_X11_role_64 rfl) rfl) rfl) rfl
theorem dX11_role_72 : decode cX11_role 72 = .ok (.aload_n 0, 1) := o_42 (u1_8 hc_X11_role_64 rfl) rfl
theorem dX11_role_73 : decode cX11_role 73 = .ok (.iconst 2, 1) := o_5 (u1_9 hc_X11_role_64 rfl) rfl
theorem dX11_role_74 : decode cX11_role 74 = .ok (.invokevirtual 128, 3) := o_182 (u1_10 hc_X11_role_64 rfl) (u2_d (u1_11 hc_X11_role_64 rfl) (u1_12 hc_X11_role_64 rfl) rfl) rfl
theorem dX11_role_77 : decode cX11_role 77 = .ok (.ireturn, 1) := o_172 (u1_13 hc_X11_role_64 rfl) rfl
theorem dX11_role_78 : decode cX11_role 78 = .ok (.iload_n 3, 1) := o_29 (u1_14 hc_X11_role_64 rfl) rfl
theorem dX11_role_79 : decode cX11_role 79 = .ok (.bipush (-9), 2) := o_16 (u1_15 hc_X11_role_64 rfl) (s1_d (u1_16 hc_X11_role_64 rfl) rfl) rfl
theorem hc_X11_role_80 : ((bL cX11_role).drop 80).take 18 = [247, 159, 0, 30, 42, 180, 0, 10, 29, 42, 180, 0, 60, 180, 1, 87, 27, 46] := by decide +kernel
theorem dX11_role_81 : decode cX11_role 81 = .ok (.if_icmp .eq 30, 3) := o_159 (u1_1 hc_X11_role_80 rfl) (s2_d (u2_d (u1_2 hc_X11_role_80 rfl) (u1_3 hc_X11_role_80 rfl) rfl) rfl) rfl
theorem dX11_role_84 : decode cX11_role 84 = .ok (.aload_n 0, 1) := o_42 (u1_4 hc_X11_role_80 rfl) rfl
theorem dX11_role_85 : decode cX11_role 85 = .ok (.getfield 10, 3) := o_180 (u1_5 hc_X11_role_80 rfl) (u2_d (u1_6 hc_X11_role_80 rfl) (u1_7 hc_X11_role_80 rfl) rfl) rfl
theorem dX11_role_88 : decode cX11_role 88 = .ok (.iload_n 3, 1) := o_29 (u1_8 hc_X11_role_80 rfl) rfl
theorem dX11_role_89 : decode cX11_role 89 = .ok (.aload_n 0, 1) := o_42 (u1_9 hc_X11_role_80 rfl) rfl
theorem dX11_role_90 : decode cX11_role 90 = .ok (.getfield 60, 3) := o_180 (u1_10 hc_X11_role_80 rfl) (u2_d (u1_11 hc_X11_role_80 rfl) (u1_12 hc_X11_role_80 rfl) rfl) rfl
theorem dX11_role_93 : decode cX11_role 93 = .ok (.getfield 343, 3) := o_180 (u1_13 hc_X11_role_80 rfl) (u2_d (u1_14 hc_X11_role_80 rfl) (u1_15 hc_X11_role_80 rfl) rfl) rfl
theorem hc_X11_role_96 : ((bL cX11_role).drop 96).take 18 = [27, 46, 182, 1, 88, 154, 0, 10, 42, 16, 6, 182, 0, 128, 172, 42, 180, 0] := by decide +kernel
theorem dX11_role_96 : decode cX11_role 96 = .ok (.iload_n 1, 1) := o_27 (u1_0 hc_X11_role_96 rfl) rfl
theorem dX11_role_97 : decode cX11_role 97 = .ok (.iaload, 1) := o_46 (u1_1 hc_X11_role_96 rfl) rfl
theorem dX11_role_98 : decode cX11_role 98 = .ok (.invokevirtual 344, 3) := o_182 (u1_2 hc_X11_role_96 rfl) (u2_d (u1_3 hc_X11_role_96 rfl) (u1_4 hc_X11_role_96 rfl) rfl) rfl
theorem dX11_role_101 : decode cX11_role 101 = .ok (.ifCond .ne 10, 3) := o_154 (u1_5 hc_X11_role_96 rfl) (s2_d (u2_d (u1_6 hc_X11_role_96 rfl) (u1_7 hc_X11_role_96 rfl) rfl) rfl) rfl
theorem dX11_role_104 : decode cX11_role 104 = .ok (.aload_n 0, 1) := o_42 (u1_8 hc_X11_role_96 rfl) rfl
theorem dX11_role_105 : decode cX11_role 105 = .ok (.bipush 6, 2) := o_16 (u1_9 hc_X11_role_96 rfl) (s1_d (u1_10 hc_X11_role_96 rfl) rfl) rfl
theorem dX11_role_107 : decode cX11_role 107 = .ok (.invokevirtual 128, 3) := o_182 (u1_11 hc_X11_role_96 rfl) (u2_d (u1_12 hc_X11_role_96 rfl) (u1_13 hc_X11_role_96 rfl) rfl) rfl
theorem dX11_role_110 : decode cX11_role 110 = .ok (.ireturn, 1) := o_172 (u1_14 hc_X11_role_96 rfl) rfl
theorem dX11_role_111 : decode cX11_role 111 = .ok (.aload_n 0, 1) := o_42 (u1_15 hc_X11_role_96 rfl) rfl
theorem hc_X11_role_112 : ((bL cX11_role).drop 112).take 18 = [180, 0, 60, 180, 1, 91, 27, 16, 12, 104, 28, 96, 29, 79, 4, 172] := by decide +kernel
theorem dX11_role_112 : decode cX11_role 112 = .ok (.getfield 60, 3) := o_180 (u1_0 hc_X11_role_112 rfl) (u2_d (u1_1 hc_X11_role_112 rfl) (u1_2 hc_X11_role_112 rfl) rfl) rfl
theorem dX11_role_115 : decode cX11_role 115 = .ok (.getfield 347, 3) := o_180 (u1_3 hc_X11_role_112 rfl) (u2_d (u1_4 hc_X11_role_112 rfl) (u1_5 hc_X11_role_112 rfl) rfl) rfl
theorem dX11_role_118 : decode cX11_role 118 = .ok (.iload_n 1, 1) := o_27 (u1_6 hc_X11_role_112 rfl) rfl
theorem dX11_role_119 : decode cX11_role 119 = .ok (.bipush 12, 2) := o_16 (u1_7 hc_X11_role_112 rfl) (s1_d (u1_8 hc_X11_role_112 rfl) rfl) rfl
theorem dX11_role_121 : decode cX11_role 121 = .ok (.imul, 1) := o_104 (u1_9 hc_X11_role_112 rfl) rfl
theorem dX11_role_122 : decode cX11_role 122 = .ok (.iload_n 2, 1) := o_28 (u1_10 hc_X11_role_112 rfl) rfl
theorem dX11_role_123 : decode cX11_role 123 = .ok (.iadd, 1) := o_96 (u1_11 hc_X11_role_112 rfl) rfl
theorem dX11_role_124 : decode cX11_role 124 = .ok (.iload_n 3, 1) := o_29 (u1_12 hc_X11_role_112 rfl) rfl
theorem dX11_role_125 : decode cX11_role 125 = .ok (.iastore, 1) := o_79 (u1_13 hc_X11_role_112 rfl) rfl
theorem dX11_role_126 : decode cX11_role 126 = .ok (.iconst 1, 1) := o_4 (u1_14 hc_X11_role_112 rfl) rfl
theorem dX11_role_127 : decode cX11_role 127 = .ok (.ireturn, 1) := o_172 (u1_15 hc_X11_role_112 rfl) rfl
theorem hc_X11_who_0 : ((bL cX11_who).drop 0).take 18 = [27, 42, 180, 0, 60, 180, 1, 78, 184, 0, 91, 154, 0, 5, 2, 172, 28, 42] := by decide +kernel
theorem dX11_who_0 : decode cX11_who 0 = .ok (.iload_n 1, 1) := o_27 (u1_0 hc_X11_who_0 rfl) rfl
theorem dX11_who_1 : decode cX11_who 1 = .ok (.aload_n 0, 1) := o_42 (u1_1 hc_X11_who_0 rfl) rfl
theorem dX11_who_2 : decode cX11_who 2 = .ok (.getfield 60, 3) := o_180 (u1_2 hc_X11_who_0 rfl) (u2_d (u1_3 hc_X11_who_0 rfl) (u1_4 hc_X11_who_0 rfl) rfl) rfl
theorem dX11_who_5 : decode cX11_who 5 = .ok (.getfield 334, 3) := o_180 (u1_5 hc_X11_who_0 rfl) (u2_d (u1_6 hc_X11_who_0 rfl) (u1_7 hc_X11_who_0 rfl) rfl) rfl
theorem dX11_who_8 : decode cX11_who 8 = .ok (.invokestatic 91, 3) := o_184 (u1_8 hc_X11_who_0 rfl) (u2_d (u1_9 hc_X11_who_0 rfl) (u1_10 hc_X11_who_0 rfl) rfl) rfl
theorem dX11_who_11 : decode cX11_who 11 = .ok (.ifCond .ne 5, 3) := o_154 (u1_11 hc_X11_who_0 rfl) (s2_d (u2_d (u1_12 hc_X11_who_0 rfl) (u1_13 hc_X11_who_0 rfl) rfl) rfl) rfl
theorem dX11_who_14 : decode cX11_who 14 = .ok (.iconst (-1), 1) := o_2 (u1_14 hc_X11_who_0 rfl) rfl
theorem dX11_who_15 : decode cX11_who 15 = .ok (.ireturn, 1) := o_172 (u1_15 hc_X11_who_0 rfl) rfl
theorem hc_X11_who_16 : ((bL cX11_who).drop 16).take 18 = [28, 42, 180, 0, 60, 180, 1, 84, 27, 46, 184, 0, 91, 154, 0, 9, 42, 5] := by decide +kernel
theorem dX11_who_16 : decode cX11_who 16 = .ok (.iload_n 2, 1) := o_28 (u1_0 hc_X11_who_16 rfl) rfl
theorem dX11_who_17 : decode cX11_who 17 = .ok (.aload_n 0, 1) := o_42 (u1_1 hc_X11_who_16 rfl) rfl
theorem dX11_who_18 : decode cX11_who 18 = .ok (.getfield 60, 3) := o_180 (u1_2 hc_X11_who_16 rfl) (u2_d (u1_3 hc_X11_who_16 rfl) (u1_4 hc_X11_who_16 rfl) rfl) rfl
theorem dX11_who_21 : decode cX11_who 21 = .ok (.getfield 340, 3) := o_180 (u1_5 hc_X11_who_16 rfl) (u2_d (u1_6 hc_X11_who_16 rfl) (u1_7 hc_X11_who_16 rfl) rfl) rfl
theorem dX11_who_24 : decode cX11_who 24 = .ok (.iload_n 1, 1) := o_27 (u1_8 hc_X11_who_16 rfl) rfl
theorem dX11_who_25 : decode cX11_who 25 = .ok (.iaload, 1) := o_46 (u1_9 hc_X11_who_16 rfl) rfl
theorem dX11_who_26 : decode cX11_who 26 = .ok (.invokestatic 91, 3) := o_184 (u1_10 hc_X11_who_16 rfl) (u2_d (u1_11 hc_X11_who_16 rfl) (u1_12 hc_X11_who_16 rfl) rfl) rfl
theorem dX11_who_29 : decode cX11_who 29 = .ok (.ifCond .ne 9, 3) := o_154 (u1_13 hc_X11_who_16 rfl) (s2_d (u2_d (u1_14 hc_X11_who_16 rfl) (u1_15 hc_X11_who_16 rfl) rfl) rfl) rfl
theorem hc_X11_who_32 : ((bL cX11_who).drop 32).take 18 = [42, 5, 182, 0, 128, 172, 42, 180, 0, 60, 180, 1, 91, 27, 16, 12, 104, 28] := by decide +kernel
theorem dX11_who_32 : decode cX11_who 32 = .ok (.aload_n 0, 1) := o_42 (u1_0 hc_X11_who_32 rfl) rfl
theorem dX11_who_33 : decode cX11_who 33 = .ok (.iconst 2, 1) := o_5 (u1_1 hc_X11_who_32 rfl) rfl
theorem dX11_who_34 : decode cX11_who 34 = .ok (.invokevirtual 128, 3) := o_182 (u1_2 hc_X11_who_32 rfl) (u2_d (u1_3 hc_X11_who_32 rfl) (u1_4 hc_X11_who_32 rfl) rfl) rfl
theorem dX11_who_37 : decode cX11_who 37 = .ok (.ireturn, 1) := o_172 (u1_5 hc_X11_who_32 rfl) rfl
theorem dX11_who_38 : decode cX11_who 38 = .ok (.aload_n 0, 1) := o_42 (u1_6 hc_X11_who_32 rfl) rfl
theorem dX11_who_39 : decode cX11_who 39 = .ok (.getfield 60, 3) := o_180 (u1_7 hc_X11_who_32 rfl) (u2_d (u1_8 hc_X11_who_32 rfl) (u1_9 hc_X11_who_32 rfl) rfl) rfl
theorem dX11_who_42 : decode cX11_who 42 = .ok (.getfield 347, 3) := o_180 (u1_10 hc_X11_who_32 rfl) (u2_d (u1_11 hc_X11_who_32 rfl) (u1_12 hc_X11_who_32 rfl) rfl) rfl
theorem dX11_who_45 : decode cX11_who 45 = .ok (.iload_n 1, 1) := o_27 (u1_13 hc_X11_who_32 rfl) rfl
theorem dX11_who_46 : decode cX11_who 46 = .ok (.bipush 12, 2) := o_16 (u1_14 hc_X11_who_32 rfl) (s1_d (u1_15 hc_X11_who_32 rfl) rfl) rfl
theorem hc_X11_who_48 : ((bL cX11_who).drop 48).take 18 = [104, 28, 96, 46, 62, 29, 16, 247, 160, 0, 11, 42, 4, 182, 0, 128, 167, 0] := by decide +kernel
theorem dX11_who_48 : decode cX11_who 48 = .ok (.imul, 1) := o_104 (u1_0 hc_X11_who_48 rfl) rfl
theorem dX11_who_49 : decode cX11_who 49 = .ok (.iload_n 2, 1) := o_28 (u1_1 hc_X11_who_48 rfl) rfl
theorem dX11_who_50 : decode cX11_who 50 = .ok (.iadd, 1) := o_96 (u1_2 hc_X11_who_48 rfl) rfl
theorem dX11_who_51 : decode cX11_who 51 = .ok (.iaload, 1) := o_46 (u1_3 hc_X11_who_48 rfl) rfl
theorem dX11_who_52 : decode cX11_who 52 = .ok (.istore_n 3, 1) := o_62 (u1_4 hc_X11_who_48 rfl) rfl
theorem dX11_who_53 : decode cX11_who 53 = .ok (.iload_n 3, 1) := o_29 (u1_5 hc_X11_who_48 rfl) rfl
theorem dX11_who_54 : decode cX11_who 54 = .ok (.bipush (-9), 2) := o_16 (u1_6 hc_X11_who_48 rfl) (s1_d (u1_7 hc_X11_who_48 rfl) rfl) rfl
theorem dX11_who_56 : decode cX11_who 56 = .ok (.if_icmp .ne 11, 3) := o_160 (u1_8 hc_X11_who_48 rfl) (s2_d (u2_d (u1_9 hc_X11_who_48 rfl) (u1_10 hc_X11_who_48 rfl) rfl) rfl) rfl
theorem dX11_who_59 : decode cX11_who 59 = .ok (.aload_n 0, 1) := o_42 (u1_11 hc_X11_who_48 rfl) rfl
theorem dX11_who_60 : decode cX11_who 60 = .ok (.iconst 1, 1) := o_4 (u1_12 hc_X11_who_48 rfl) rfl
theorem dX11_who_61 : decode cX11_who 61 = .ok (.invokevirtual 128, 3) := o_182 (u1_13 hc_X11_who_48 rfl) (u2_d (u1_14 hc_X11_who_48 rfl) (u1_15 hc_X11_who_48 rfl) rfl) rfl
theorem hc_X11_who_64 : ((bL cX11_who).drop 64).take 18 = [167, 0, 4, 29, 172] := by decide +kernel
theorem dX11_who_64 : decode cX11_who 64 = .ok (.goto 4, 3) := o_167 (u1_0 hc_X11_who_64 rfl) (s2_d (u2_d (u1_1 hc_X11_who_64 rfl) (u1_2 hc_X11_who_64 rfl) rfl) rfl) rfl
theorem dX11_who_67 : decode cX11_who 67 = .ok (.iload_n 3, 1) := o_29 (u1_3 hc_X11_who_64 rfl) rfl
theorem dX11_who_68 : decode cX11_who 68 = .ok (.ireturn, 1) := o_172 (u1_4 hc_X11_who_64 rfl) rfl
theorem hc_X11_count_0 : ((bL cX11_count).drop 0).take 18 = [27, 170, 0, 0, 0, 0, 0, 154, 0, 0, 0, 0, 0, 0, 0, 7, 0, 0] := by decide +kernel
theorem dX11_count_0 : decode cX11_count 0 = .ok (.iload_n 1, 1) := o_27 (u1_0 hc_X11_count_0 rfl) rfl
theorem dX11_count_1 : decode cX11_count 1 = .ok (.tableswitch 154 0 7 #[47, 57, 67, 77, 87, 97, 107, 132], 47) := by decide +kernel
theorem hc_X11_count_48 : ((bL cX11_count).drop 48).take 18 = [42, 180, 0, 10, 180, 0, 84, 167, 0, 101, 42, 180, 0, 10, 180, 0, 102, 167] := by decide +kernel
theorem dX11_count_48 : decode cX11_count 48 = .ok (.aload_n 0, 1) := o_42 (u1_0 hc_X11_count_48 rfl) rfl
theorem dX11_count_49 : decode cX11_count 49 = .ok (.getfield 10, 3) := o_180 (u1_1 hc_X11_count_48 rfl) (u2_d (u1_2 hc_X11_count_48 rfl) (u1_3 hc_X11_count_48 rfl) rfl) rfl
theorem dX11_count_52 : decode cX11_count 52 = .ok (.getfield 84, 3) := o_180 (u1_4 hc_X11_count_48 rfl) (u2_d (u1_5 hc_X11_count_48 rfl) (u1_6 hc_X11_count_48 rfl) rfl) rfl
theorem dX11_count_55 : decode cX11_count 55 = .ok (.goto 101, 3) := o_167 (u1_7 hc_X11_count_48 rfl) (s2_d (u2_d (u1_8 hc_X11_count_48 rfl) (u1_9 hc_X11_count_48 rfl) rfl) rfl) rfl
theorem dX11_count_58 : decode cX11_count 58 = .ok (.aload_n 0, 1) := o_42 (u1_10 hc_X11_count_48 rfl) rfl
theorem dX11_count_59 : decode cX11_count 59 = .ok (.getfield 10, 3) := o_180 (u1_11 hc_X11_count_48 rfl) (u2_d (u1_12 hc_X11_count_48 rfl) (u1_13 hc_X11_count_48 rfl) rfl) rfl
theorem dX11_count_62 : decode cX11_count 62 = .ok (.getfield 102, 3) := o_180 (u1_14 hc_X11_count_48 rfl) (u2_d (u1_15 hc_X11_count_48 rfl) (u1_16 hc_X11_count_48 rfl) rfl) rfl
theorem hc_X11_count_64 : ((bL cX11_count).drop 64).take 18 = [102, 167, 0, 91, 42, 180, 0, 21, 180, 0, 191, 167, 0, 81, 42, 180, 0, 21] := by decide +kernel
theorem dX11_count_65 : decode cX11_count 65 = .ok (.goto 91, 3) := o_167 (u1_1 hc_X11_count_64 rfl) (s2_d (u2_d (u1_2 hc_X11_count_64 rfl) (u1_3 hc_X11_count_64 rfl) rfl) rfl) rfl
theorem dX11_count_68 : decode cX11_count 68 = .ok (.aload_n 0, 1) := o_42 (u1_4 hc_X11_count_64 rfl) rfl
theorem dX11_count_69 : decode cX11_count 69 = .ok (.getfield 21, 3) := o_180 (u1_5 hc_X11_count_64 rfl) (u2_d (u1_6 hc_X11_count_64 rfl) (u1_7 hc_X11_count_64 rfl) rfl) rfl
theorem dX11_count_72 : decode cX11_count 72 = .ok (.getfield 191, 3) := o_180 (u1_8 hc_X11_count_64 rfl) (u2_d (u1_9 hc_X11_count_64 rfl) (u1_10 hc_X11_count_64 rfl) rfl) rfl
theorem dX11_count_75 : decode cX11_count 75 = .ok (.goto 81, 3) := o_167 (u1_11 hc_X11_count_64 rfl) (s2_d (u2_d (u1_12 hc_X11_count_64 rfl) (u1_13 hc_X11_count_64 rfl) rfl) rfl) rfl
theorem dX11_count_78 : decode cX11_count 78 = .ok (.aload_n 0, 1) := o_42 (u1_14 hc_X11_count_64 rfl) rfl
theorem dX11_count_79 : decode cX11_count 79 = .ok (.getfield 21, 3) := o_180 (u1_15 hc_X11_count_64 rfl) (u2_d (u1_16 hc_X11_count_64 rfl) (u1_17 hc_X11_count_64 rfl) rfl) rfl
theorem hc_X11_count_80 : ((bL cX11_count).drop 80).take 18 = [0, 21, 180, 0, 168, 167, 0, 71, 42, 180, 0, 60, 180, 1, 78, 167, 0, 61] := by decide +kernel
theorem dX11_count_82 : decode cX11_count 82 = .ok (.getfield 168, 3) := o_180 (u1_2 hc_X11_count_80 rfl) (u2_d (u1_3 hc_X11_count_80 rfl) (u1_4 hc_X11_count_80 rfl) rfl) rfl
theorem dX11_count_85 : decode cX11_count 85 = .ok (.goto 71, 3) := o_167 (u1_5 hc_X11_count_80 rfl) (s2_d (u2_d (u1_6 hc_X11_count_80 rfl) (u1_7 hc_X11_count_80 rfl) rfl) rfl) rfl
theorem dX11_count_88 : decode cX11_count 88 = .ok (.aload_n 0, 1) := o_42 (u1_8 hc_X11_count_80 rfl) rfl
theorem dX11_count_89 : decode cX11_count 89 = .ok (.getfield 60, 3) := o_180 (u1_9 hc_X11_count_80 rfl) (u2_d (u1_10 hc_X11_count_80 rfl) (u1_11 hc_X11_count_80 rfl) rfl) rfl
theorem dX11_count_92 : decode cX11_count 92 = .ok (.getfield 334, 3) := o_180 (u1_12 hc_X11_count_80 rfl) (u2_d (u1_13 hc_X11_count_80 rfl) (u1_14 hc_X11_count_80 rfl) rfl) rfl
theorem dX11_count_95 : decode cX11_count 95 = .ok (.goto 61, 3) := o_167 (u1_15 hc_X11_count_80 rfl) (s2_d (u2_d (u1_16 hc_X11_count_80 rfl) (u1_17 hc_X11_count_80 rfl) rfl) rfl) rfl
theorem hc_X11_count_96 : ((bL cX11_count).drop 96).take 18 = [0, 61, 42, 180, 0, 46, 180, 0, 254, 167, 0, 51, 42, 180, 0, 46, 180, 1] := by decide +kernel
theorem dX11_count_98 : decode cX11_count 98 = .ok (.aload_n 0, 1) := o_42 (u1_2 hc_X11_count_96 rfl) rfl
theorem dX11_count_99 : decode cX11_count 99 = .ok (.getfield 46, 3) := o_180 (u1_3 hc_X11_count_96 rfl) (u2_d (u1_4 hc_X11_count_96 rfl) (u1_5 hc_X11_count_96 rfl) rfl) rfl
theorem dX11_count_102 : decode cX11_count 102 = .ok (.getfield 254, 3) := o_180 (u1_6 hc_X11_count_96 rfl) (u2_d (u1_7 hc_X11_count_96 rfl) (u1_8 hc_X11_count_96 rfl) rfl) rfl
theorem dX11_count_105 : decode cX11_count 105 = .ok (.goto 51, 3) := o_167 (u1_9 hc_X11_count_96 rfl) (s2_d (u2_d (u1_10 hc_X11_count_96 rfl) (u1_11 hc_X11_count_96 rfl) rfl) rfl) rfl
theorem dX11_count_108 : decode cX11_count 108 = .ok (.aload_n 0, 1) := o_42 (u1_12 hc_X11_count_96 rfl) rfl
theorem dX11_count_109 : decode cX11_count 109 = .ok (.getfield 46, 3) := o_180 (u1_13 hc_X11_count_96 rfl) (u2_d (u1_14 hc_X11_count_96 rfl) (u1_15 hc_X11_count_96 rfl) rfl) rfl
theorem hc_X11_count_112 : ((bL cX11_count).drop 112).take 18 = [180, 1, 1, 153, 0, 13, 42, 180, 0, 46, 180, 1, 33, 167, 0, 31, 16, 247] := by decide +kernel
theorem dX11_count_112 : decode cX11_count 112 = .ok (.getfield 257, 3) := o_180 (u1_0 hc_X11_count_112 rfl) (u2_d (u1_1 hc_X11_count_112 rfl) (u1_2 hc_X11_count_112 rfl) rfl) rfl
theorem dX11_count_115 : decode cX11_count 115 = .ok (.ifCond .eq 13, 3) := o_153 (u1_3 hc_X11_count_112 rfl) (s2_d (u2_d (u1_4 hc_X11_count_112 rfl) (u1_5 hc_X11_count_112 rfl) rfl) rfl) rfl
theorem dX11_count_118 : decode cX11_count 118 = .ok (.aload_n 0, 1) := o_42 (u1_6 hc_X11_count_112 rfl) rfl
theorem dX11_count_119 : decode cX11_count 119 = .ok (.getfield 46, 3) := o_180 (u1_7 hc_X11_count_112 rfl) (u2_d (u1_8 hc_X11_count_112 rfl) (u1_9 hc_X11_count_112 rfl) rfl) rfl
theorem dX11_count_122 : decode cX11_count 122 = .ok (.getfield 289, 3) := o_180 (u1_10 hc_X11_count_112 rfl) (u2_d (u1_11 hc_X11_count_112 rfl) (u1_12 hc_X11_count_112 rfl) rfl) rfl
theorem dX11_count_125 : decode cX11_count 125 = .ok (.goto 31, 3) := o_167 (u1_13 hc_X11_count_112 rfl) (s2_d (u2_d (u1_14 hc_X11_count_112 rfl) (u1_15 hc_X11_count_112 rfl) rfl) rfl) rfl
theorem hc_X11_count_128 : ((bL cX11_count).drop 128).take 18 = [16, 247, 167, 0, 26, 42, 180, 0, 64, 199, 0, 8, 16, 247, 167, 0, 14, 42] := by decide +kernel
theorem dX11_count_128 : decode cX11_count 128 = .ok (.bipush (-9), 2) := o_16 (u1_0 hc_X11_count_128 rfl) (s1_d (u1_1 hc_X11_count_128 rfl) rfl) rfl
theorem dX11_count_130 : decode cX11_count 130 = .ok (.goto 26, 3) := o_167 (u1_2 hc_X11_count_128 rfl) (s2_d (u2_d (u1_3 hc_X11_count_128 rfl) (u1_4 hc_X11_count_128 rfl) rfl) rfl) rfl
theorem dX11_count_133 : decode cX11_count 133 = .ok (.aload_n 0, 1) := o_42 (u1_5 hc_X11_count_128 rfl) rfl
theorem dX11_count_134 : decode cX11_count 134 = .ok (.getfield 64, 3) := o_180 (u1_6 hc_X11_count_128 rfl) (u2_d (u1_7 hc_X11_count_128 rfl) (u1_8 hc_X11_count_128 rfl) rfl) rfl
theorem dX11_count_137 : decode cX11_count 137 = .ok (.ifnonnull 8, 3) := o_199 (u1_9 hc_X11_count_128 rfl) (s2_d (u2_d (u1_10 hc_X11_count_128 rfl) (u1_11 hc_X11_count_128 rfl) rfl) rfl) rfl
theorem dX11_count_140 : decode cX11_count 140 = .ok (.bipush (-9), 2) := o_16 (u1_12 hc_X11_count_128 rfl) (s1_d (u1_13 hc_X11_count_128 rfl) rfl) rfl
theorem dX11_count_142 : decode cX11_count 142 = .ok (.goto 14, 3) := o_167 (u1_14 hc_X11_count_128 rfl) (s2_d (u2_d (u1_15 hc_X11_count_128 rfl) (u1_16 hc_X11_count_128 rfl) rfl) rfl) rfl
theorem hc_X11_count_144 : ((bL cX11_count).drop 144).take 18 = [14, 42, 180, 0, 64, 180, 1, 43, 167, 0, 4, 2, 172] := by decide +kernel
theorem dX11_count_145 : decode cX11_count 145 = .ok (.aload_n 0, 1) := o_42 (u1_1 hc_X11_count_144 rfl) rfl
theorem dX11_count_146 : decode cX11_count 146 = .ok (.getfield 64, 3) := o_180 (u1_2 hc_X11_count_144 rfl) (u2_d (u1_3 hc_X11_count_144 rfl) (u1_4 hc_X11_count_144 rfl) rfl) rfl
theorem dX11_count_149 : decode cX11_count 149 = .ok (.getfield 299, 3) := o_180 (u1_5 hc_X11_count_144 rfl) (u2_d (u1_6 hc_X11_count_144 rfl) (u1_7 hc_X11_count_144 rfl) rfl) rfl
theorem dX11_count_152 : decode cX11_count 152 = .ok (.goto 4, 3) := o_167 (u1_8 hc_X11_count_144 rfl) (s2_d (u2_d (u1_9 hc_X11_count_144 rfl) (u1_10 hc_X11_count_144 rfl) rfl) rfl) rfl
theorem dX11_count_155 : decode cX11_count 155 = .ok (.iconst (-1), 1) := o_2 (u1_11 hc_X11_count_144 rfl) rfl
theorem dX11_count_156 : decode cX11_count 156 = .ok (.ireturn, 1) := o_172 (u1_12 hc_X11_count_144 rfl) rfl
theorem hc_X11_finding_0 : ((bL cX11_finding).drop 0).take 18 = [42, 180, 0, 72, 172] := by decide +kernel
theorem dX11_finding_0 : decode cX11_finding 0 = .ok (.aload_n 0, 1) := o_42 (u1_0 hc_X11_finding_0 rfl) rfl
theorem dX11_finding_1 : decode cX11_finding 1 = .ok (.getfield 72, 3) := o_180 (u1_1 hc_X11_finding_0 rfl) (u2_d (u1_2 hc_X11_finding_0 rfl) (u1_3 hc_X11_finding_0 rfl) rfl) rfl
theorem dX11_finding_4 : decode cX11_finding 4 = .ok (.ireturn, 1) := o_172 (u1_4 hc_X11_finding_0 rfl) rfl
theorem hc_X11_findings_0 : ((bL cX11_findings).drop 0).take 18 = [27, 4, 161, 0, 9, 27, 16, 6, 164, 0, 7, 2, 167, 0, 9, 42, 180, 0] := by decide +kernel
theorem dX11_findings_0 : decode cX11_findings 0 = .ok (.iload_n 1, 1) := o_27 (u1_0 hc_X11_findings_0 rfl) rfl
theorem dX11_findings_1 : decode cX11_findings 1 = .ok (.iconst 1, 1) := o_4 (u1_1 hc_X11_findings_0 rfl) rfl
theorem dX11_findings_2 : decode cX11_findings 2 = .ok (.if_icmp .lt 9, 3) := o_161 (u1_2 hc_X11_findings_0 rfl) (s2_d (u2_d (u1_3 hc_X11_findings_0 rfl) (u1_4 hc_X11_findings_0 rfl) rfl) rfl) rfl
theorem dX11_findings_5 : decode cX11_findings 5 = .ok (.iload_n 1, 1) := o_27 (u1_5 hc_X11_findings_0 rfl) rfl
theorem dX11_findings_6 : decode cX11_findings 6 = .ok (.bipush 6, 2) := o_16 (u1_6 hc_X11_findings_0 rfl) (s1_d (u1_7 hc_X11_findings_0 rfl) rfl) rfl
theorem dX11_findings_8 : decode cX11_findings 8 = .ok (.if_icmp .le 7, 3) := o_164 (u1_8 hc_X11_findings_0 rfl) (s2_d (u2_d (u1_9 hc_X11_findings_0 rfl) (u1_10 hc_X11_findings_0 rfl) rfl) rfl) rfl
theorem dX11_findings_11 : decode cX11_findings 11 = .ok (.iconst (-1), 1) := o_2 (u1_11 hc_X11_findings_0 rfl) rfl
theorem dX11_findings_12 : decode cX11_findings 12 = .ok (.goto 9, 3) := o_167 (u1_12 hc_X11_findings_0 rfl) (s2_d (u2_d (u1_13 hc_X11_findings_0 rfl) (u1_14 hc_X11_findings_0 rfl) rfl) rfl) rfl
theorem dX11_findings_15 : decode cX11_findings 15 = .ok (.aload_n 0, 1) := o_42 (u1_15 hc_X11_findings_0 rfl) rfl
theorem hc_X11_findings_16 : ((bL cX11_findings).drop 16).take 18 = [180, 0, 68, 27, 46, 172] := by decide +kernel
theorem dX11_findings_16 : decode cX11_findings 16 = .ok (.getfield 68, 3) := o_180 (u1_0 hc_X11_findings_16 rfl) (u2_d (u1_1 hc_X11_findings_16 rfl) (u1_2 hc_X11_findings_16 rfl) rfl) rfl
theorem dX11_findings_19 : decode cX11_findings 19 = .ok (.iload_n 1, 1) := o_27 (u1_3 hc_X11_findings_16 rfl) rfl
theorem dX11_findings_20 : decode cX11_findings 20 = .ok (.iaload, 1) := o_46 (u1_4 hc_X11_findings_16 rfl) rfl
theorem dX11_findings_21 : decode cX11_findings 21 = .ok (.ireturn, 1) := o_172 (u1_5 hc_X11_findings_16 rfl) rfl
theorem hc_X11_digest_0 : ((bL cX11_digest).drop 0).take 18 = [42, 42, 42, 20, 1, 94, 182, 1, 96, 182, 1, 100, 182, 1, 103, 173] := by decide +kernel
theorem dX11_digest_0 : decode cX11_digest 0 = .ok (.aload_n 0, 1) := o_42 (u1_0 hc_X11_digest_0 rfl) rfl
theorem dX11_digest_1 : decode cX11_digest 1 = .ok (.aload_n 0, 1) := o_42 (u1_1 hc_X11_digest_0 rfl) rfl
theorem dX11_digest_2 : decode cX11_digest 2 = .ok (.aload_n 0, 1) := o_42 (u1_2 hc_X11_digest_0 rfl) rfl
theorem dX11_digest_3 : decode cX11_digest 3 = .ok (.ldc2_w 350, 3) := o_20 (u1_3 hc_X11_digest_0 rfl) (u2_d (u1_4 hc_X11_digest_0 rfl) (u1_5 hc_X11_digest_0 rfl) rfl) rfl
theorem dX11_digest_6 : decode cX11_digest 6 = .ok (.invokevirtual 352, 3) := o_182 (u1_6 hc_X11_digest_0 rfl) (u2_d (u1_7 hc_X11_digest_0 rfl) (u1_8 hc_X11_digest_0 rfl) rfl) rfl
theorem dX11_digest_9 : decode cX11_digest 9 = .ok (.invokevirtual 356, 3) := o_182 (u1_9 hc_X11_digest_0 rfl) (u2_d (u1_10 hc_X11_digest_0 rfl) (u1_11 hc_X11_digest_0 rfl) rfl) rfl
theorem dX11_digest_12 : decode cX11_digest 12 = .ok (.invokevirtual 359, 3) := o_182 (u1_12 hc_X11_digest_0 rfl) (u2_d (u1_13 hc_X11_digest_0 rfl) (u1_14 hc_X11_digest_0 rfl) rfl) rfl
theorem dX11_digest_15 : decode cX11_digest 15 = .ok (.lreturn, 1) := o_173 (u1_15 hc_X11_digest_0 rfl) rfl
theorem hc_X11_digestKinds_0 : ((bL cX11_digestKinds).drop 0).take 18 = [31, 66, 3, 54, 5, 21, 5, 42, 180, 0, 10, 180, 0, 84, 162, 0, 67, 20] := by decide +kernel
theorem dX11_digestKinds_0 : decode cX11_digestKinds 0 = .ok (.lload_n 1, 1) := o_31 (u1_0 hc_X11_digestKinds_0 rfl) rfl
theorem dX11_digestKinds_1 : decode cX11_digestKinds 1 = .ok (.lstore_n 3, 1) := o_66 (u1_1 hc_X11_digestKinds_0 rfl) rfl
theorem dX11_digestKinds_2 : decode cX11_digestKinds 2 = .ok (.iconst 0, 1) := o_3 (u1_2 hc_X11_digestKinds_0 rfl) rfl
theorem dX11_digestKinds_3 : decode cX11_digestKinds 3 = .ok (.istore 5, 2) := o_54 (u1_3 hc_X11_digestKinds_0 rfl) (u1_4 hc_X11_digestKinds_0 rfl) rfl
theorem dX11_digestKinds_5 : decode cX11_digestKinds 5 = .ok (.iload 5, 2) := o_21 (u1_5 hc_X11_digestKinds_0 rfl) (u1_6 hc_X11_digestKinds_0 rfl) rfl
theorem dX11_digestKinds_7 : decode cX11_digestKinds 7 = .ok (.aload_n 0, 1) := o_42 (u1_7 hc_X11_digestKinds_0 rfl) rfl
theorem dX11_digestKinds_8 : decode cX11_digestKinds 8 = .ok (.getfield 10, 3) := o_180 (u1_8 hc_X11_digestKinds_0 rfl) (u2_d (u1_9 hc_X11_digestKinds_0 rfl) (u1_10 hc_X11_digestKinds_0 rfl) rfl) rfl
theorem dX11_digestKinds_11 : decode cX11_digestKinds 11 = .ok (.getfield 84, 3) := o_180 (u1_11 hc_X11_digestKinds_0 rfl) (u2_d (u1_12 hc_X11_digestKinds_0 rfl) (u1_13 hc_X11_digestKinds_0 rfl) rfl) rfl
theorem dX11_digestKinds_14 : decode cX11_digestKinds 14 = .ok (.if_icmp .ge 67, 3) := o_162 (u1_14 hc_X11_digestKinds_0 rfl) (s2_d (u2_d (u1_15 hc_X11_digestKinds_0 rfl) (u1_16 hc_X11_digestKinds_0 rfl) rfl) rfl) rfl
theorem hc_X11_digestKinds_16 : ((bL cX11_digestKinds).drop 16).take 18 = [67, 20, 1, 106, 33, 105, 42, 180, 0, 10, 180, 1, 108, 21, 5, 46, 133, 97] := by decide +kernel
theorem dX11_digestKinds_17 : decode cX11_digestKinds 17 = .ok (.ldc2_w 362, 3) := o_20 (u1_1 hc_X11_digestKinds_16 rfl) (u2_d (u1_2 hc_X11_digestKinds_16 rfl) (u1_3 hc_X11_digestKinds_16 rfl) rfl) rfl
theorem dX11_digestKinds_20 : decode cX11_digestKinds 20 = .ok (.lload_n 3, 1) := o_33 (u1_4 hc_X11_digestKinds_16 rfl) rfl
theorem dX11_digestKinds_21 : decode cX11_digestKinds 21 = .ok (.lmul, 1) := o_105 (u1_5 hc_X11_digestKinds_16 rfl) rfl
theorem dX11_digestKinds_22 : decode cX11_digestKinds 22 = .ok (.aload_n 0, 1) := o_42 (u1_6 hc_X11_digestKinds_16 rfl) rfl
theorem dX11_digestKinds_23 : decode cX11_digestKinds 23 = .ok (.getfield 10, 3) := o_180 (u1_7 hc_X11_digestKinds_16 rfl) (u2_d (u1_8 hc_X11_digestKinds_16 rfl) (u1_9 hc_X11_digestKinds_16 rfl) rfl) rfl
theorem dX11_digestKinds_26 : decode cX11_digestKinds 26 = .ok (.getfield 364, 3) := o_180 (u1_10 hc_X11_digestKinds_16 rfl) (u2_d (u1_11 hc_X11_digestKinds_16 rfl) (u1_12 hc_X11_digestKinds_16 rfl) rfl) rfl
theorem dX11_digestKinds_29 : decode cX11_digestKinds 29 = .ok (.iload 5, 2) := o_21 (u1_13 hc_X11_digestKinds_16 rfl) (u1_14 hc_X11_digestKinds_16 rfl) rfl
theorem dX11_digestKinds_31 : decode cX11_digestKinds 31 = .ok (.iaload, 1) := o_46 (u1_15 hc_X11_digestKinds_16 rfl) rfl
theorem hc_X11_digestKinds_32 : ((bL cX11_digestKinds).drop 32).take 18 = [133, 97, 66, 3, 54, 6, 21, 6, 16, 6, 162, 0, 33, 20, 1, 106, 33, 105] := by decide +kernel
theorem dX11_digestKinds_32 : decode cX11_digestKinds 32 = .ok (.i2l, 1) := o_133 (u1_0 hc_X11_digestKinds_32 rfl) rfl
theorem dX11_digestKinds_33 : decode cX11_digestKinds 33 = .ok (.ladd, 1) := o_97 (u1_1 hc_X11_digestKinds_32 rfl) rfl
theorem dX11_digestKinds_34 : decode cX11_digestKinds 34 = .ok (.lstore_n 3, 1) := o_66 (u1_2 hc_X11_digestKinds_32 rfl) rfl
theorem dX11_digestKinds_35 : decode cX11_digestKinds 35 = .ok (.iconst 0, 1) := o_3 (u1_3 hc_X11_digestKinds_32 rfl) rfl
theorem dX11_digestKinds_36 : decode cX11_digestKinds 36 = .ok (.istore 6, 2) := o_54 (u1_4 hc_X11_digestKinds_32 rfl) (u1_5 hc_X11_digestKinds_32 rfl) rfl
theorem dX11_digestKinds_38 : decode cX11_digestKinds 38 = .ok (.iload 6, 2) := o_21 (u1_6 hc_X11_digestKinds_32 rfl) (u1_7 hc_X11_digestKinds_32 rfl) rfl
theorem dX11_digestKinds_40 : decode cX11_digestKinds 40 = .ok (.bipush 6, 2) := o_16 (u1_8 hc_X11_digestKinds_32 rfl) (s1_d (u1_9 hc_X11_digestKinds_32 rfl) rfl) rfl
theorem dX11_digestKinds_42 : decode cX11_digestKinds 42 = .ok (.if_icmp .ge 33, 3) := o_162 (u1_10 hc_X11_digestKinds_32 rfl) (s2_d (u2_d (u1_11 hc_X11_digestKinds_32 rfl) (u1_12 hc_X11_digestKinds_32 rfl) rfl) rfl) rfl
theorem dX11_digestKinds_45 : decode cX11_digestKinds 45 = .ok (.ldc2_w 362, 3) := o_20 (u1_13 hc_X11_digestKinds_32 rfl) (u2_d (u1_14 hc_X11_digestKinds_32 rfl) (u1_15 hc_X11_digestKinds_32 rfl) rfl) rfl
theorem hc_X11_digestKinds_48 : ((bL cX11_digestKinds).drop 48).take 18 = [33, 105, 42, 180, 0, 10, 180, 1, 111, 21, 5, 16, 6, 104, 21, 6, 96, 46] := by decide +kernel
theorem dX11_digestKinds_48 : decode cX11_digestKinds 48 = .ok (.lload_n 3, 1) := o_33 (u1_0 hc_X11_digestKinds_48 rfl) rfl
theorem dX11_digestKinds_49 : decode cX11_digestKinds 49 = .ok (.lmul, 1) := o_105 (u1_1 hc_X11_digestKinds_48 rfl) rfl
theorem dX11_digestKinds_50 : decode cX11_digestKinds 50 = .ok (.aload_n 0, 1) := o_42 (u1_2 hc_X11_digestKinds_48 rfl) rfl
theorem dX11_digestKinds_51 : decode cX11_digestKinds 51 = .ok (.getfield 10, 3) := o_180 (u1_3 hc_X11_digestKinds_48 rfl) (u2_d (u1_4 hc_X11_digestKinds_48 rfl) (u1_5 hc_X11_digestKinds_48 rfl) rfl) rfl
theorem dX11_digestKinds_54 : decode cX11_digestKinds 54 = .ok (.getfield 367, 3) := o_180 (u1_6 hc_X11_digestKinds_48 rfl) (u2_d (u1_7 hc_X11_digestKinds_48 rfl) (u1_8 hc_X11_digestKinds_48 rfl) rfl) rfl
theorem dX11_digestKinds_57 : decode cX11_digestKinds 57 = .ok (.iload 5, 2) := o_21 (u1_9 hc_X11_digestKinds_48 rfl) (u1_10 hc_X11_digestKinds_48 rfl) rfl
theorem dX11_digestKinds_59 : decode cX11_digestKinds 59 = .ok (.bipush 6, 2) := o_16 (u1_11 hc_X11_digestKinds_48 rfl) (s1_d (u1_12 hc_X11_digestKinds_48 rfl) rfl) rfl
theorem dX11_digestKinds_61 : decode cX11_digestKinds 61 = .ok (.imul, 1) := o_104 (u1_13 hc_X11_digestKinds_48 rfl) rfl
theorem dX11_digestKinds_62 : decode cX11_digestKinds 62 = .ok (.iload 6, 2) := o_21 (u1_14 hc_X11_digestKinds_48 rfl) (u1_15 hc_X11_digestKinds_48 rfl) rfl
theorem hc_X11_digestKinds_64 : ((bL cX11_digestKinds).drop 64).take 18 = [96, 46, 133, 97, 66, 132, 6, 1, 167, 255, 222, 132, 5, 1, 167, 255, 183, 33] := by decide +kernel
theorem dX11_digestKinds_64 : decode cX11_digestKinds 64 = .ok (.iadd, 1) := o_96 (u1_0 hc_X11_digestKinds_64 rfl) rfl
theorem dX11_digestKinds_65 : decode cX11_digestKinds 65 = .ok (.iaload, 1) := o_46 (u1_1 hc_X11_digestKinds_64 rfl) rfl
theorem dX11_digestKinds_66 : decode cX11_digestKinds 66 = .ok (.i2l, 1) := o_133 (u1_2 hc_X11_digestKinds_64 rfl) rfl
theorem dX11_digestKinds_67 : decode cX11_digestKinds 67 = .ok (.ladd, 1) := o_97 (u1_3 hc_X11_digestKinds_64 rfl) rfl
theorem dX11_digestKinds_68 : decode cX11_digestKinds 68 = .ok (.lstore_n 3, 1) := o_66 (u1_4 hc_X11_digestKinds_64 rfl) rfl
theorem dX11_digestKinds_69 : decode cX11_digestKinds 69 = .ok (.iinc 6 1, 3) := o_132 (u1_5 hc_X11_digestKinds_64 rfl) (u1_6 hc_X11_digestKinds_64 rfl) (s1_d (u1_7 hc_X11_digestKinds_64 rfl) rfl) rfl
theorem dX11_digestKinds_72 : decode cX11_digestKinds 72 = .ok (.goto (-34), 3) := o_167 (u1_8 hc_X11_digestKinds_64 rfl) (s2_d (u2_d (u1_9 hc_X11_digestKinds_64 rfl) (u1_10 hc_X11_digestKinds_64 rfl) rfl) rfl) rfl
theorem dX11_digestKinds_75 : decode cX11_digestKinds 75 = .ok (.iinc 5 1, 3) := o_132 (u1_11 hc_X11_digestKinds_64 rfl) (u1_12 hc_X11_digestKinds_64 rfl) (s1_d (u1_13 hc_X11_digestKinds_64 rfl) rfl) rfl
theorem dX11_digestKinds_78 : decode cX11_digestKinds 78 = .ok (.goto (-73), 3) := o_167 (u1_14 hc_X11_digestKinds_64 rfl) (s2_d (u2_d (u1_15 hc_X11_digestKinds_64 rfl) (u1_16 hc_X11_digestKinds_64 rfl) rfl) rfl) rfl
theorem hc_X11_digestKinds_80 : ((bL cX11_digestKinds).drop 80).take 18 = [183, 33, 173] := by decide +kernel
theorem dX11_digestKinds_81 : decode cX11_digestKinds 81 = .ok (.lload_n 3, 1) := o_33 (u1_1 hc_X11_digestKinds_80 rfl) rfl
theorem dX11_digestKinds_82 : decode cX11_digestKinds 82 = .ok (.lreturn, 1) := o_173 (u1_2 hc_X11_digestKinds_80 rfl) rfl
theorem hc_X11_digestObjects_0 : ((bL cX11_digestObjects).drop 0).take 18 = [31, 66, 3, 54, 5, 21, 5, 42, 180, 0, 10, 180, 0, 102, 162, 0, 130, 20] := by decide +kernel
theorem dX11_digestObjects_0 : decode cX11_digestObjects 0 = .ok (.lload_n 1, 1) := o_31 (u1_0 hc_X11_digestObjects_0 rfl) rfl
theorem dX11_digestObjects_1 : decode cX11_digestObjects 1 = .ok (.lstore_n 3, 1) := o_66 (u1_1 hc_X11_digestObjects_0 rfl) rfl
theorem dX11_digestObjects_2 : decode cX11_digestObjects 2 = .ok (.iconst 0, 1) := o_3 (u1_2 hc_X11_digestObjects_0 rfl) rfl
theorem dX11_digestObjects_3 : decode cX11_digestObjects 3 = .ok (.istore 5, 2) := o_54 (u1_3 hc_X11_digestObjects_0 rfl) (u1_4 hc_X11_digestObjects_0 rfl) rfl
theorem dX11_digestObjects_5 : decode cX11_digestObjects 5 = .ok (.iload 5, 2) := o_21 (u1_5 hc_X11_digestObjects_0 rfl) (u1_6 hc_X11_digestObjects_0 rfl) rfl
theorem dX11_digestObjects_7 : decode cX11_digestObjects 7 = .ok (.aload_n 0, 1) := o_42 (u1_7 hc_X11_digestObjects_0 rfl) rfl
theorem dX11_digestObjects_8 : decode cX11_digestObjects 8 = .ok (.getfield 10, 3) := o_180 (u1_8 hc_X11_digestObjects_0 rfl) (u2_d (u1_9 hc_X11_digestObjects_0 rfl) (u1_10 hc_X11_digestObjects_0 rfl) rfl) rfl
theorem dX11_digestObjects_11 : decode cX11_digestObjects 11 = .ok (.getfield 102, 3) := o_180 (u1_11 hc_X11_digestObjects_0 rfl) (u2_d (u1_12 hc_X11_digestObjects_0 rfl) (u1_13 hc_X11_digestObjects_0 rfl) rfl) rfl
theorem dX11_digestObjects_14 : decode cX11_digestObjects 14 = .ok (.if_icmp .ge 130, 3) := o_162 (u1_14 hc_X11_digestObjects_0 rfl) (s2_d (u2_d (u1_15 hc_X11_digestObjects_0 rfl) (u1_16 hc_X11_digestObjects_0 rfl) rfl) rfl) rfl
theorem hc_X11_digestObjects_16 : ((bL cX11_digestObjects).drop 16).take 18 = [130, 20, 1, 106, 33, 105, 42, 180, 0, 10, 180, 0, 112, 21, 5, 46, 133, 97] := by decide +kernel
theorem dX11_digestObjects_17 : decode cX11_digestObjects 17 = .ok (.ldc2_w 362, 3) := o_20 (u1_1 hc_X11_digestObjects_16 rfl) (u2_d (u1_2 hc_X11_digestObjects_16 rfl) (u1_3 hc_X11_digestObjects_16 rfl) rfl) rfl
theorem dX11_digestObjects_20 : decode cX11_digestObjects 20 = .ok (.lload_n 3, 1) := o_33 (u1_4 hc_X11_digestObjects_16 rfl) rfl
theorem dX11_digestObjects_21 : decode cX11_digestObjects 21 = .ok (.lmul, 1) := o_105 (u1_5 hc_X11_digestObjects_16 rfl) rfl
theorem dX11_digestObjects_22 : decode cX11_digestObjects 22 = .ok (.aload_n 0, 1) := o_42 (u1_6 hc_X11_digestObjects_16 rfl) rfl
theorem dX11_digestObjects_23 : decode cX11_digestObjects 23 = .ok (.getfield 10, 3) := o_180 (u1_7 hc_X11_digestObjects_16 rfl) (u2_d (u1_8 hc_X11_digestObjects_16 rfl) (u1_9 hc_X11_digestObjects_16 rfl) rfl) rfl
theorem dX11_digestObjects_26 : decode cX11_digestObjects 26 = .ok (.getfield 112, 3) := o_180 (u1_10 hc_X11_digestObjects_16 rfl) (u2_d (u1_11 hc_X11_digestObjects_16 rfl) (u1_12 hc_X11_digestObjects_16 rfl) rfl) rfl
theorem dX11_digestObjects_29 : decode cX11_digestObjects 29 = .ok (.iload 5, 2) := o_21 (u1_13 hc_X11_digestObjects_16 rfl) (u1_14 hc_X11_digestObjects_16 rfl) rfl
theorem dX11_digestObjects_31 : decode cX11_digestObjects 31 = .ok (.iaload, 1) := o_46 (u1_15 hc_X11_digestObjects_16 rfl) rfl
theorem hc_X11_digestObjects_32 : ((bL cX11_digestObjects).drop 32).take 18 = [133, 97, 66, 20, 1, 106, 33, 105, 42, 180, 0, 10, 180, 1, 114, 21, 5, 46] := by decide +kernel
theorem dX11_digestObjects_32 : decode cX11_digestObjects 32 = .ok (.i2l, 1) := o_133 (u1_0 hc_X11_digestObjects_32 rfl) rfl
theorem dX11_digestObjects_33 : decode cX11_digestObjects 33 = .ok (.ladd, 1) := o_97 (u1_1 hc_X11_digestObjects_32 rfl) rfl
theorem dX11_digestObjects_34 : decode cX11_digestObjects 34 = .ok (.lstore_n 3, 1) := o_66 (u1_2 hc_X11_digestObjects_32 rfl) rfl
theorem dX11_digestObjects_35 : decode cX11_digestObjects 35 = .ok (.ldc2_w 362, 3) := o_20 (u1_3 hc_X11_digestObjects_32 rfl) (u2_d (u1_4 hc_X11_digestObjects_32 rfl) (u1_5 hc_X11_digestObjects_32 rfl) rfl) rfl
theorem dX11_digestObjects_38 : decode cX11_digestObjects 38 = .ok (.lload_n 3, 1) := o_33 (u1_6 hc_X11_digestObjects_32 rfl) rfl
theorem dX11_digestObjects_39 : decode cX11_digestObjects 39 = .ok (.lmul, 1) := o_105 (u1_7 hc_X11_digestObjects_32 rfl) rfl
theorem dX11_digestObjects_40 : decode cX11_digestObjects 40 = .ok (.aload_n 0, 1) := o_42 (u1_8 hc_X11_digestObjects_32 rfl) rfl
theorem dX11_digestObjects_41 : decode cX11_digestObjects 41 = .ok (.getfield 10, 3) := o_180 (u1_9 hc_X11_digestObjects_32 rfl) (u2_d (u1_10 hc_X11_digestObjects_32 rfl) (u1_11 hc_X11_digestObjects_32 rfl) rfl) rfl
theorem dX11_digestObjects_44 : decode cX11_digestObjects 44 = .ok (.getfield 370, 3) := o_180 (u1_12 hc_X11_digestObjects_32 rfl) (u2_d (u1_13 hc_X11_digestObjects_32 rfl) (u1_14 hc_X11_digestObjects_32 rfl) rfl) rfl
theorem dX11_digestObjects_47 : decode cX11_digestObjects 47 = .ok (.iload 5, 2) := o_21 (u1_15 hc_X11_digestObjects_32 rfl) (u1_16 hc_X11_digestObjects_32 rfl) rfl
theorem hc_X11_digestObjects_48 : ((bL cX11_digestObjects).drop 48).take 18 = [5, 46, 133, 97, 66, 20, 1, 106, 33, 105, 42, 180, 0, 21, 180, 0, 203, 21] := by decide +kernel
theorem dX11_digestObjects_49 : decode cX11_digestObjects 49 = .ok (.iaload, 1) := o_46 (u1_1 hc_X11_digestObjects_48 rfl) rfl
theorem dX11_digestObjects_50 : decode cX11_digestObjects 50 = .ok (.i2l, 1) := o_133 (u1_2 hc_X11_digestObjects_48 rfl) rfl
theorem dX11_digestObjects_51 : decode cX11_digestObjects 51 = .ok (.ladd, 1) := o_97 (u1_3 hc_X11_digestObjects_48 rfl) rfl
theorem dX11_digestObjects_52 : decode cX11_digestObjects 52 = .ok (.lstore_n 3, 1) := o_66 (u1_4 hc_X11_digestObjects_48 rfl) rfl
theorem dX11_digestObjects_53 : decode cX11_digestObjects 53 = .ok (.ldc2_w 362, 3) := o_20 (u1_5 hc_X11_digestObjects_48 rfl) (u2_d (u1_6 hc_X11_digestObjects_48 rfl) (u1_7 hc_X11_digestObjects_48 rfl) rfl) rfl
theorem dX11_digestObjects_56 : decode cX11_digestObjects 56 = .ok (.lload_n 3, 1) := o_33 (u1_8 hc_X11_digestObjects_48 rfl) rfl
theorem dX11_digestObjects_57 : decode cX11_digestObjects 57 = .ok (.lmul, 1) := o_105 (u1_9 hc_X11_digestObjects_48 rfl) rfl
theorem dX11_digestObjects_58 : decode cX11_digestObjects 58 = .ok (.aload_n 0, 1) := o_42 (u1_10 hc_X11_digestObjects_48 rfl) rfl
theorem dX11_digestObjects_59 : decode cX11_digestObjects 59 = .ok (.getfield 21, 3) := o_180 (u1_11 hc_X11_digestObjects_48 rfl) (u2_d (u1_12 hc_X11_digestObjects_48 rfl) (u1_13 hc_X11_digestObjects_48 rfl) rfl) rfl
theorem dX11_digestObjects_62 : decode cX11_digestObjects 62 = .ok (.getfield 203, 3) := o_180 (u1_14 hc_X11_digestObjects_48 rfl) (u2_d (u1_15 hc_X11_digestObjects_48 rfl) (u1_16 hc_X11_digestObjects_48 rfl) rfl) rfl
theorem hc_X11_digestObjects_64 : ((bL cX11_digestObjects).drop 64).take 18 = [203, 21, 5, 182, 0, 206, 133, 97, 66, 20, 1, 106, 33, 105, 42, 180, 0, 21] := by decide +kernel
theorem dX11_digestObjects_65 : decode cX11_digestObjects 65 = .ok (.iload 5, 2) := o_21 (u1_1 hc_X11_digestObjects_64 rfl) (u1_2 hc_X11_digestObjects_64 rfl) rfl
theorem dX11_digestObjects_67 : decode cX11_digestObjects 67 = .ok (.invokevirtual 206, 3) := o_182 (u1_3 hc_X11_digestObjects_64 rfl) (u2_d (u1_4 hc_X11_digestObjects_64 rfl) (u1_5 hc_X11_digestObjects_64 rfl) rfl) rfl
theorem dX11_digestObjects_70 : decode cX11_digestObjects 70 = .ok (.i2l, 1) := o_133 (u1_6 hc_X11_digestObjects_64 rfl) rfl
theorem dX11_digestObjects_71 : decode cX11_digestObjects 71 = .ok (.ladd, 1) := o_97 (u1_7 hc_X11_digestObjects_64 rfl) rfl
theorem dX11_digestObjects_72 : decode cX11_digestObjects 72 = .ok (.lstore_n 3, 1) := o_66 (u1_8 hc_X11_digestObjects_64 rfl) rfl
theorem dX11_digestObjects_73 : decode cX11_digestObjects 73 = .ok (.ldc2_w 362, 3) := o_20 (u1_9 hc_X11_digestObjects_64 rfl) (u2_d (u1_10 hc_X11_digestObjects_64 rfl) (u1_11 hc_X11_digestObjects_64 rfl) rfl) rfl
theorem dX11_digestObjects_76 : decode cX11_digestObjects 76 = .ok (.lload_n 3, 1) := o_33 (u1_12 hc_X11_digestObjects_64 rfl) rfl
theorem dX11_digestObjects_77 : decode cX11_digestObjects 77 = .ok (.lmul, 1) := o_105 (u1_13 hc_X11_digestObjects_64 rfl) rfl
theorem dX11_digestObjects_78 : decode cX11_digestObjects 78 = .ok (.aload_n 0, 1) := o_42 (u1_14 hc_X11_digestObjects_64 rfl) rfl
theorem dX11_digestObjects_79 : decode cX11_digestObjects 79 = .ok (.getfield 21, 3) := o_180 (u1_15 hc_X11_digestObjects_64 rfl) (u2_d (u1_16 hc_X11_digestObjects_64 rfl) (u1_17 hc_X11_digestObjects_64 rfl) rfl) rfl
theorem hc_X11_digestObjects_80 : ((bL cX11_digestObjects).drop 80).take 18 = [0, 21, 180, 0, 203, 21, 5, 182, 0, 211, 133, 97, 66, 3, 54, 6, 42, 180] := by decide +kernel
theorem dX11_digestObjects_82 : decode cX11_digestObjects 82 = .ok (.getfield 203, 3) := o_180 (u1_2 hc_X11_digestObjects_80 rfl) (u2_d (u1_3 hc_X11_digestObjects_80 rfl) (u1_4 hc_X11_digestObjects_80 rfl) rfl) rfl
theorem dX11_digestObjects_85 : decode cX11_digestObjects 85 = .ok (.iload 5, 2) := o_21 (u1_5 hc_X11_digestObjects_80 rfl) (u1_6 hc_X11_digestObjects_80 rfl) rfl
theorem dX11_digestObjects_87 : decode cX11_digestObjects 87 = .ok (.invokevirtual 211, 3) := o_182 (u1_7 hc_X11_digestObjects_80 rfl) (u2_d (u1_8 hc_X11_digestObjects_80 rfl) (u1_9 hc_X11_digestObjects_80 rfl) rfl) rfl
theorem dX11_digestObjects_90 : decode cX11_digestObjects 90 = .ok (.i2l, 1) := o_133 (u1_10 hc_X11_digestObjects_80 rfl) rfl
theorem dX11_digestObjects_91 : decode cX11_digestObjects 91 = .ok (.ladd, 1) := o_97 (u1_11 hc_X11_digestObjects_80 rfl) rfl
theorem dX11_digestObjects_92 : decode cX11_digestObjects 92 = .ok (.lstore_n 3, 1) := o_66 (u1_12 hc_X11_digestObjects_80 rfl) rfl
theorem dX11_digestObjects_93 : decode cX11_digestObjects 93 = .ok (.iconst 0, 1) := o_3 (u1_13 hc_X11_digestObjects_80 rfl) rfl
theorem dX11_digestObjects_94 : decode cX11_digestObjects 94 = .ok (.istore 6, 2) := o_54 (u1_14 hc_X11_digestObjects_80 rfl) (u1_15 hc_X11_digestObjects_80 rfl) rfl
theorem hc_X11_digestObjects_96 : ((bL cX11_digestObjects).drop 96).take 18 = [42, 180, 0, 46, 180, 1, 1, 153, 0, 35, 21, 6, 16, 6, 162, 0, 28, 20] := by decide +kernel
theorem dX11_digestObjects_96 : decode cX11_digestObjects 96 = .ok (.aload_n 0, 1) := o_42 (u1_0 hc_X11_digestObjects_96 rfl) rfl
theorem dX11_digestObjects_97 : decode cX11_digestObjects 97 = .ok (.getfield 46, 3) := o_180 (u1_1 hc_X11_digestObjects_96 rfl) (u2_d (u1_2 hc_X11_digestObjects_96 rfl) (u1_3 hc_X11_digestObjects_96 rfl) rfl) rfl
theorem dX11_digestObjects_100 : decode cX11_digestObjects 100 = .ok (.getfield 257, 3) := o_180 (u1_4 hc_X11_digestObjects_96 rfl) (u2_d (u1_5 hc_X11_digestObjects_96 rfl) (u1_6 hc_X11_digestObjects_96 rfl) rfl) rfl
theorem dX11_digestObjects_103 : decode cX11_digestObjects 103 = .ok (.ifCond .eq 35, 3) := o_153 (u1_7 hc_X11_digestObjects_96 rfl) (s2_d (u2_d (u1_8 hc_X11_digestObjects_96 rfl) (u1_9 hc_X11_digestObjects_96 rfl) rfl) rfl) rfl
theorem dX11_digestObjects_106 : decode cX11_digestObjects 106 = .ok (.iload 6, 2) := o_21 (u1_10 hc_X11_digestObjects_96 rfl) (u1_11 hc_X11_digestObjects_96 rfl) rfl
theorem dX11_digestObjects_108 : decode cX11_digestObjects 108 = .ok (.bipush 6, 2) := o_16 (u1_12 hc_X11_digestObjects_96 rfl) (s1_d (u1_13 hc_X11_digestObjects_96 rfl) rfl) rfl
theorem dX11_digestObjects_110 : decode cX11_digestObjects 110 = .ok (.if_icmp .ge 28, 3) := o_162 (u1_14 hc_X11_digestObjects_96 rfl) (s2_d (u2_d (u1_15 hc_X11_digestObjects_96 rfl) (u1_16 hc_X11_digestObjects_96 rfl) rfl) rfl) rfl
theorem hc_X11_digestObjects_112 : ((bL cX11_digestObjects).drop 112).take 18 = [28, 20, 1, 106, 33, 105, 42, 180, 0, 46, 21, 5, 21, 6, 182, 1, 11, 133] := by decide +kernel
theorem dX11_digestObjects_113 : decode cX11_digestObjects 113 = .ok (.ldc2_w 362, 3) := o_20 (u1_1 hc_X11_digestObjects_112 rfl) (u2_d (u1_2 hc_X11_digestObjects_112 rfl) (u1_3 hc_X11_digestObjects_112 rfl) rfl) rfl
theorem dX11_digestObjects_116 : decode cX11_digestObjects 116 = .ok (.lload_n 3, 1) := o_33 (u1_4 hc_X11_digestObjects_112 rfl) rfl
theorem dX11_digestObjects_117 : decode cX11_digestObjects 117 = .ok (.lmul, 1) := o_105 (u1_5 hc_X11_digestObjects_112 rfl) rfl
theorem dX11_digestObjects_118 : decode cX11_digestObjects 118 = .ok (.aload_n 0, 1) := o_42 (u1_6 hc_X11_digestObjects_112 rfl) rfl
theorem dX11_digestObjects_119 : decode cX11_digestObjects 119 = .ok (.getfield 46, 3) := o_180 (u1_7 hc_X11_digestObjects_112 rfl) (u2_d (u1_8 hc_X11_digestObjects_112 rfl) (u1_9 hc_X11_digestObjects_112 rfl) rfl) rfl
theorem dX11_digestObjects_122 : decode cX11_digestObjects 122 = .ok (.iload 5, 2) := o_21 (u1_10 hc_X11_digestObjects_112 rfl) (u1_11 hc_X11_digestObjects_112 rfl) rfl
theorem dX11_digestObjects_124 : decode cX11_digestObjects 124 = .ok (.iload 6, 2) := o_21 (u1_12 hc_X11_digestObjects_112 rfl) (u1_13 hc_X11_digestObjects_112 rfl) rfl
theorem dX11_digestObjects_126 : decode cX11_digestObjects 126 = .ok (.invokevirtual 267, 3) := o_182 (u1_14 hc_X11_digestObjects_112 rfl) (u2_d (u1_15 hc_X11_digestObjects_112 rfl) (u1_16 hc_X11_digestObjects_112 rfl) rfl) rfl
theorem hc_X11_digestObjects_128 : ((bL cX11_digestObjects).drop 128).take 18 = [11, 133, 97, 66, 132, 6, 1, 167, 255, 217, 132, 5, 1, 167, 255, 120, 33, 173] := by decide +kernel
theorem dX11_digestObjects_129 : decode cX11_digestObjects 129 = .ok (.i2l, 1) := o_133 (u1_1 hc_X11_digestObjects_128 rfl) rfl
theorem dX11_digestObjects_130 : decode cX11_digestObjects 130 = .ok (.ladd, 1) := o_97 (u1_2 hc_X11_digestObjects_128 rfl) rfl
theorem dX11_digestObjects_131 : decode cX11_digestObjects 131 = .ok (.lstore_n 3, 1) := o_66 (u1_3 hc_X11_digestObjects_128 rfl) rfl
theorem dX11_digestObjects_132 : decode cX11_digestObjects 132 = .ok (.iinc 6 1, 3) := o_132 (u1_4 hc_X11_digestObjects_128 rfl) (u1_5 hc_X11_digestObjects_128 rfl) (s1_d (u1_6 hc_X11_digestObjects_128 rfl) rfl) rfl
theorem dX11_digestObjects_135 : decode cX11_digestObjects 135 = .ok (.goto (-39), 3) := o_167 (u1_7 hc_X11_digestObjects_128 rfl) (s2_d (u2_d (u1_8 hc_X11_digestObjects_128 rfl) (u1_9 hc_X11_digestObjects_128 rfl) rfl) rfl) rfl
theorem dX11_digestObjects_138 : decode cX11_digestObjects 138 = .ok (.iinc 5 1, 3) := o_132 (u1_10 hc_X11_digestObjects_128 rfl) (u1_11 hc_X11_digestObjects_128 rfl) (s1_d (u1_12 hc_X11_digestObjects_128 rfl) rfl) rfl
theorem dX11_digestObjects_141 : decode cX11_digestObjects 141 = .ok (.goto (-136), 3) := o_167 (u1_13 hc_X11_digestObjects_128 rfl) (s2_d (u2_d (u1_14 hc_X11_digestObjects_128 rfl) (u1_15 hc_X11_digestObjects_128 rfl) rfl) rfl) rfl
theorem hc_X11_digestObjects_144 : ((bL cX11_digestObjects).drop 144).take 18 = [33, 173] := by decide +kernel
theorem dX11_digestObjects_144 : decode cX11_digestObjects 144 = .ok (.lload_n 3, 1) := o_33 (u1_0 hc_X11_digestObjects_144 rfl) rfl
theorem dX11_digestObjects_145 : decode cX11_digestObjects 145 = .ok (.lreturn, 1) := o_173 (u1_1 hc_X11_digestObjects_144 rfl) rfl
theorem hc_X11_digestSentences_0 : ((bL cX11_digestSentences).drop 0).take 18 = [31, 66, 3, 54, 5, 21, 5, 42, 180, 0, 21, 180, 0, 168, 162, 0, 43, 3] := by decide +kernel
theorem dX11_digestSentences_0 : decode cX11_digestSentences 0 = .ok (.lload_n 1, 1) := o_31 (u1_0 hc_X11_digestSentences_0 rfl) rfl
theorem dX11_digestSentences_1 : decode cX11_digestSentences 1 = .ok (.lstore_n 3, 1) := o_66 (u1_1 hc_X11_digestSentences_0 rfl) rfl
theorem dX11_digestSentences_2 : decode cX11_digestSentences 2 = .ok (.iconst 0, 1) := o_3 (u1_2 hc_X11_digestSentences_0 rfl) rfl
theorem dX11_digestSentences_3 : decode cX11_digestSentences 3 = .ok (.istore 5, 2) := o_54 (u1_3 hc_X11_digestSentences_0 rfl) (u1_4 hc_X11_digestSentences_0 rfl) rfl
theorem dX11_digestSentences_5 : decode cX11_digestSentences 5 = .ok (.iload 5, 2) := o_21 (u1_5 hc_X11_digestSentences_0 rfl) (u1_6 hc_X11_digestSentences_0 rfl) rfl
theorem dX11_digestSentences_7 : decode cX11_digestSentences 7 = .ok (.aload_n 0, 1) := o_42 (u1_7 hc_X11_digestSentences_0 rfl) rfl
theorem dX11_digestSentences_8 : decode cX11_digestSentences 8 = .ok (.getfield 21, 3) := o_180 (u1_8 hc_X11_digestSentences_0 rfl) (u2_d (u1_9 hc_X11_digestSentences_0 rfl) (u1_10 hc_X11_digestSentences_0 rfl) rfl) rfl
theorem dX11_digestSentences_11 : decode cX11_digestSentences 11 = .ok (.getfield 168, 3) := o_180 (u1_11 hc_X11_digestSentences_0 rfl) (u2_d (u1_12 hc_X11_digestSentences_0 rfl) (u1_13 hc_X11_digestSentences_0 rfl) rfl) rfl
theorem dX11_digestSentences_14 : decode cX11_digestSentences 14 = .ok (.if_icmp .ge 43, 3) := o_162 (u1_14 hc_X11_digestSentences_0 rfl) (s2_d (u2_d (u1_15 hc_X11_digestSentences_0 rfl) (u1_16 hc_X11_digestSentences_0 rfl) rfl) rfl) rfl
theorem hc_X11_digestSentences_16 : ((bL cX11_digestSentences).drop 16).take 18 = [43, 3, 54, 6, 21, 6, 8, 162, 0, 28, 20, 1, 106, 33, 105, 42, 180, 0] := by decide +kernel
theorem dX11_digestSentences_17 : decode cX11_digestSentences 17 = .ok (.iconst 0, 1) := o_3 (u1_1 hc_X11_digestSentences_16 rfl) rfl
theorem dX11_digestSentences_18 : decode cX11_digestSentences 18 = .ok (.istore 6, 2) := o_54 (u1_2 hc_X11_digestSentences_16 rfl) (u1_3 hc_X11_digestSentences_16 rfl) rfl
theorem dX11_digestSentences_20 : decode cX11_digestSentences 20 = .ok (.iload 6, 2) := o_21 (u1_4 hc_X11_digestSentences_16 rfl) (u1_5 hc_X11_digestSentences_16 rfl) rfl
theorem dX11_digestSentences_22 : decode cX11_digestSentences 22 = .ok (.iconst 5, 1) := o_8 (u1_6 hc_X11_digestSentences_16 rfl) rfl
theorem dX11_digestSentences_23 : decode cX11_digestSentences 23 = .ok (.if_icmp .ge 28, 3) := o_162 (u1_7 hc_X11_digestSentences_16 rfl) (s2_d (u2_d (u1_8 hc_X11_digestSentences_16 rfl) (u1_9 hc_X11_digestSentences_16 rfl) rfl) rfl) rfl
theorem dX11_digestSentences_26 : decode cX11_digestSentences 26 = .ok (.ldc2_w 362, 3) := o_20 (u1_10 hc_X11_digestSentences_16 rfl) (u2_d (u1_11 hc_X11_digestSentences_16 rfl) (u1_12 hc_X11_digestSentences_16 rfl) rfl) rfl
theorem dX11_digestSentences_29 : decode cX11_digestSentences 29 = .ok (.lload_n 3, 1) := o_33 (u1_13 hc_X11_digestSentences_16 rfl) rfl
theorem dX11_digestSentences_30 : decode cX11_digestSentences 30 = .ok (.lmul, 1) := o_105 (u1_14 hc_X11_digestSentences_16 rfl) rfl
theorem dX11_digestSentences_31 : decode cX11_digestSentences 31 = .ok (.aload_n 0, 1) := o_42 (u1_15 hc_X11_digestSentences_16 rfl) rfl
theorem hc_X11_digestSentences_32 : ((bL cX11_digestSentences).drop 32).take 18 = [180, 0, 21, 21, 5, 21, 6, 182, 0, 200, 133, 97, 66, 132, 6, 1, 167, 255] := by decide +kernel
theorem dX11_digestSentences_32 : decode cX11_digestSentences 32 = .ok (.getfield 21, 3) := o_180 (u1_0 hc_X11_digestSentences_32 rfl) (u2_d (u1_1 hc_X11_digestSentences_32 rfl) (u1_2 hc_X11_digestSentences_32 rfl) rfl) rfl
theorem dX11_digestSentences_35 : decode cX11_digestSentences 35 = .ok (.iload 5, 2) := o_21 (u1_3 hc_X11_digestSentences_32 rfl) (u1_4 hc_X11_digestSentences_32 rfl) rfl
theorem dX11_digestSentences_37 : decode cX11_digestSentences 37 = .ok (.iload 6, 2) := o_21 (u1_5 hc_X11_digestSentences_32 rfl) (u1_6 hc_X11_digestSentences_32 rfl) rfl
theorem dX11_digestSentences_39 : decode cX11_digestSentences 39 = .ok (.invokevirtual 200, 3) := o_182 (u1_7 hc_X11_digestSentences_32 rfl) (u2_d (u1_8 hc_X11_digestSentences_32 rfl) (u1_9 hc_X11_digestSentences_32 rfl) rfl) rfl
theorem dX11_digestSentences_42 : decode cX11_digestSentences 42 = .ok (.i2l, 1) := o_133 (u1_10 hc_X11_digestSentences_32 rfl) rfl
theorem dX11_digestSentences_43 : decode cX11_digestSentences 43 = .ok (.ladd, 1) := o_97 (u1_11 hc_X11_digestSentences_32 rfl) rfl
theorem dX11_digestSentences_44 : decode cX11_digestSentences 44 = .ok (.lstore_n 3, 1) := o_66 (u1_12 hc_X11_digestSentences_32 rfl) rfl
theorem dX11_digestSentences_45 : decode cX11_digestSentences 45 = .ok (.iinc 6 1, 3) := o_132 (u1_13 hc_X11_digestSentences_32 rfl) (u1_14 hc_X11_digestSentences_32 rfl) (s1_d (u1_15 hc_X11_digestSentences_32 rfl) rfl) rfl
theorem hc_X11_digestSentences_48 : ((bL cX11_digestSentences).drop 48).take 18 = [167, 255, 228, 132, 5, 1, 167, 255, 207, 33, 173] := by decide +kernel
theorem dX11_digestSentences_48 : decode cX11_digestSentences 48 = .ok (.goto (-28), 3) := o_167 (u1_0 hc_X11_digestSentences_48 rfl) (s2_d (u2_d (u1_1 hc_X11_digestSentences_48 rfl) (u1_2 hc_X11_digestSentences_48 rfl) rfl) rfl) rfl
theorem dX11_digestSentences_51 : decode cX11_digestSentences 51 = .ok (.iinc 5 1, 3) := o_132 (u1_3 hc_X11_digestSentences_48 rfl) (u1_4 hc_X11_digestSentences_48 rfl) (s1_d (u1_5 hc_X11_digestSentences_48 rfl) rfl) rfl
theorem dX11_digestSentences_54 : decode cX11_digestSentences 54 = .ok (.goto (-49), 3) := o_167 (u1_6 hc_X11_digestSentences_48 rfl) (s2_d (u2_d (u1_7 hc_X11_digestSentences_48 rfl) (u1_8 hc_X11_digestSentences_48 rfl) rfl) rfl) rfl
theorem dX11_digestSentences_57 : decode cX11_digestSentences 57 = .ok (.lload_n 3, 1) := o_33 (u1_9 hc_X11_digestSentences_48 rfl) rfl
theorem dX11_digestSentences_58 : decode cX11_digestSentences 58 = .ok (.lreturn, 1) := o_173 (u1_10 hc_X11_digestSentences_48 rfl) rfl
theorem hc_X11_answerFinding_0 : ((bL cX11_answerFinding).drop 0).take 18 = [42, 27, 181, 0, 72, 42, 180, 0, 68, 27, 92, 46, 4, 96, 79, 16, 253, 172] := by decide +kernel
theorem dX11_answerFinding_0 : decode cX11_answerFinding 0 = .ok (.aload_n 0, 1) := o_42 (u1_0 hc_X11_answerFinding_0 rfl) rfl
theorem dX11_answerFinding_1 : decode cX11_answerFinding 1 = .ok (.iload_n 1, 1) := o_27 (u1_1 hc_X11_answerFinding_0 rfl) rfl
theorem dX11_answerFinding_2 : decode cX11_answerFinding 2 = .ok (.putfield 72, 3) := o_181 (u1_2 hc_X11_answerFinding_0 rfl) (u2_d (u1_3 hc_X11_answerFinding_0 rfl) (u1_4 hc_X11_answerFinding_0 rfl) rfl) rfl
theorem dX11_answerFinding_5 : decode cX11_answerFinding 5 = .ok (.aload_n 0, 1) := o_42 (u1_5 hc_X11_answerFinding_0 rfl) rfl
theorem dX11_answerFinding_6 : decode cX11_answerFinding 6 = .ok (.getfield 68, 3) := o_180 (u1_6 hc_X11_answerFinding_0 rfl) (u2_d (u1_7 hc_X11_answerFinding_0 rfl) (u1_8 hc_X11_answerFinding_0 rfl) rfl) rfl
theorem dX11_answerFinding_9 : decode cX11_answerFinding 9 = .ok (.iload_n 1, 1) := o_27 (u1_9 hc_X11_answerFinding_0 rfl) rfl
theorem dX11_answerFinding_10 : decode cX11_answerFinding 10 = .ok (.dup2, 1) := o_92 (u1_10 hc_X11_answerFinding_0 rfl) rfl
theorem dX11_answerFinding_11 : decode cX11_answerFinding 11 = .ok (.iaload, 1) := o_46 (u1_11 hc_X11_answerFinding_0 rfl) rfl
theorem dX11_answerFinding_12 : decode cX11_answerFinding 12 = .ok (.iconst 1, 1) := o_4 (u1_12 hc_X11_answerFinding_0 rfl) rfl
theorem dX11_answerFinding_13 : decode cX11_answerFinding 13 = .ok (.iadd, 1) := o_96 (u1_13 hc_X11_answerFinding_0 rfl) rfl
theorem dX11_answerFinding_14 : decode cX11_answerFinding 14 = .ok (.iastore, 1) := o_79 (u1_14 hc_X11_answerFinding_0 rfl) rfl
theorem dX11_answerFinding_15 : decode cX11_answerFinding 15 = .ok (.bipush (-3), 2) := o_16 (u1_15 hc_X11_answerFinding_0 rfl) (s1_d (u1_16 hc_X11_answerFinding_0 rfl) rfl) rfl
theorem hc_X11_answerFinding_16 : ((bL cX11_answerFinding).drop 16).take 18 = [253, 172] := by decide +kernel
theorem dX11_answerFinding_17 : decode cX11_answerFinding 17 = .ok (.ireturn, 1) := o_172 (u1_1 hc_X11_answerFinding_16 rfl) rfl
theorem hc_X11_places_0 : ((bL cX11_places).drop 0).take 18 = [42, 180, 0, 46, 180, 1, 1, 153, 0, 13, 42, 180, 0, 46, 180, 1, 30, 167] := by decide +kernel
theorem dX11_places_0 : decode cX11_places 0 = .ok (.aload_n 0, 1) := o_42 (u1_0 hc_X11_places_0 rfl) rfl
theorem dX11_places_1 : decode cX11_places 1 = .ok (.getfield 46, 3) := o_180 (u1_1 hc_X11_places_0 rfl) (u2_d (u1_2 hc_X11_places_0 rfl) (u1_3 hc_X11_places_0 rfl) rfl) rfl
theorem dX11_places_4 : decode cX11_places 4 = .ok (.getfield 257, 3) := o_180 (u1_4 hc_X11_places_0 rfl) (u2_d (u1_5 hc_X11_places_0 rfl) (u1_6 hc_X11_places_0 rfl) rfl) rfl
theorem dX11_places_7 : decode cX11_places 7 = .ok (.ifCond .eq 13, 3) := o_153 (u1_7 hc_X11_places_0 rfl) (s2_d (u2_d (u1_8 hc_X11_places_0 rfl) (u1_9 hc_X11_places_0 rfl) rfl) rfl) rfl
theorem dX11_places_10 : decode cX11_places 10 = .ok (.aload_n 0, 1) := o_42 (u1_10 hc_X11_places_0 rfl) rfl
theorem dX11_places_11 : decode cX11_places 11 = .ok (.getfield 46, 3) := o_180 (u1_11 hc_X11_places_0 rfl) (u2_d (u1_12 hc_X11_places_0 rfl) (u1_13 hc_X11_places_0 rfl) rfl) rfl
theorem dX11_places_14 : decode cX11_places 14 = .ok (.getfield 286, 3) := o_180 (u1_14 hc_X11_places_0 rfl) (u2_d (u1_15 hc_X11_places_0 rfl) (u1_16 hc_X11_places_0 rfl) rfl) rfl
theorem hc_X11_places_16 : ((bL cX11_places).drop 16).take 18 = [30, 167, 0, 10, 42, 180, 0, 21, 180, 0, 203, 176] := by decide +kernel
theorem dX11_places_17 : decode cX11_places 17 = .ok (.goto 10, 3) := o_167 (u1_1 hc_X11_places_16 rfl) (s2_d (u2_d (u1_2 hc_X11_places_16 rfl) (u1_3 hc_X11_places_16 rfl) rfl) rfl) rfl
theorem dX11_places_20 : decode cX11_places 20 = .ok (.aload_n 0, 1) := o_42 (u1_4 hc_X11_places_16 rfl) rfl
theorem dX11_places_21 : decode cX11_places 21 = .ok (.getfield 21, 3) := o_180 (u1_5 hc_X11_places_16 rfl) (u2_d (u1_6 hc_X11_places_16 rfl) (u1_7 hc_X11_places_16 rfl) rfl) rfl
theorem dX11_places_24 : decode cX11_places 24 = .ok (.getfield 203, 3) := o_180 (u1_8 hc_X11_places_16 rfl) (u2_d (u1_9 hc_X11_places_16 rfl) (u1_10 hc_X11_places_16 rfl) rfl) rfl
theorem dX11_places_27 : decode cX11_places 27 = .ok (.areturn, 1) := o_176 (u1_11 hc_X11_places_16 rfl) rfl
theorem hc_X11_refuseRooms_0 : ((bL cX11_refuseRooms).drop 0).take 18 = [42, 180, 0, 10, 27, 182, 0, 109, 153, 0, 14, 42, 180, 0, 10, 28, 182, 0] := by decide +kernel
theorem dX11_refuseRooms_0 : decode cX11_refuseRooms 0 = .ok (.aload_n 0, 1) := o_42 (u1_0 hc_X11_refuseRooms_0 rfl) rfl
theorem dX11_refuseRooms_1 : decode cX11_refuseRooms 1 = .ok (.getfield 10, 3) := o_180 (u1_1 hc_X11_refuseRooms_0 rfl) (u2_d (u1_2 hc_X11_refuseRooms_0 rfl) (u1_3 hc_X11_refuseRooms_0 rfl) rfl) rfl
theorem dX11_refuseRooms_4 : decode cX11_refuseRooms 4 = .ok (.iload_n 1, 1) := o_27 (u1_4 hc_X11_refuseRooms_0 rfl) rfl
theorem dX11_refuseRooms_5 : decode cX11_refuseRooms 5 = .ok (.invokevirtual 109, 3) := o_182 (u1_5 hc_X11_refuseRooms_0 rfl) (u2_d (u1_6 hc_X11_refuseRooms_0 rfl) (u1_7 hc_X11_refuseRooms_0 rfl) rfl) rfl
theorem dX11_refuseRooms_8 : decode cX11_refuseRooms 8 = .ok (.ifCond .eq 14, 3) := o_153 (u1_8 hc_X11_refuseRooms_0 rfl) (s2_d (u2_d (u1_9 hc_X11_refuseRooms_0 rfl) (u1_10 hc_X11_refuseRooms_0 rfl) rfl) rfl) rfl
theorem dX11_refuseRooms_11 : decode cX11_refuseRooms 11 = .ok (.aload_n 0, 1) := o_42 (u1_11 hc_X11_refuseRooms_0 rfl) rfl
theorem dX11_refuseRooms_12 : decode cX11_refuseRooms 12 = .ok (.getfield 10, 3) := o_180 (u1_12 hc_X11_refuseRooms_0 rfl) (u2_d (u1_13 hc_X11_refuseRooms_0 rfl) (u1_14 hc_X11_refuseRooms_0 rfl) rfl) rfl
theorem dX11_refuseRooms_15 : decode cX11_refuseRooms 15 = .ok (.iload_n 2, 1) := o_28 (u1_15 hc_X11_refuseRooms_0 rfl) rfl
theorem hc_X11_refuseRooms_16 : ((bL cX11_refuseRooms).drop 16).take 18 = [182, 0, 109, 154, 0, 5, 2, 172, 42, 180, 0, 10, 27, 182, 0, 125, 154, 0] := by decide +kernel
theorem dX11_refuseRooms_16 : decode cX11_refuseRooms 16 = .ok (.invokevirtual 109, 3) := o_182 (u1_0 hc_X11_refuseRooms_16 rfl) (u2_d (u1_1 hc_X11_refuseRooms_16 rfl) (u1_2 hc_X11_refuseRooms_16 rfl) rfl) rfl
theorem dX11_refuseRooms_19 : decode cX11_refuseRooms 19 = .ok (.ifCond .ne 5, 3) := o_154 (u1_3 hc_X11_refuseRooms_16 rfl) (s2_d (u2_d (u1_4 hc_X11_refuseRooms_16 rfl) (u1_5 hc_X11_refuseRooms_16 rfl) rfl) rfl) rfl
theorem dX11_refuseRooms_22 : decode cX11_refuseRooms 22 = .ok (.iconst (-1), 1) := o_2 (u1_6 hc_X11_refuseRooms_16 rfl) rfl
theorem dX11_refuseRooms_23 : decode cX11_refuseRooms 23 = .ok (.ireturn, 1) := o_172 (u1_7 hc_X11_refuseRooms_16 rfl) rfl
theorem dX11_refuseRooms_24 : decode cX11_refuseRooms 24 = .ok (.aload_n 0, 1) := o_42 (u1_8 hc_X11_refuseRooms_16 rfl) rfl
theorem dX11_refuseRooms_25 : decode cX11_refuseRooms 25 = .ok (.getfield 10, 3) := o_180 (u1_9 hc_X11_refuseRooms_16 rfl) (u2_d (u1_10 hc_X11_refuseRooms_16 rfl) (u1_11 hc_X11_refuseRooms_16 rfl) rfl) rfl
theorem dX11_refuseRooms_28 : decode cX11_refuseRooms 28 = .ok (.iload_n 1, 1) := o_27 (u1_12 hc_X11_refuseRooms_16 rfl) rfl
theorem dX11_refuseRooms_29 : decode cX11_refuseRooms 29 = .ok (.invokevirtual 125, 3) := o_182 (u1_13 hc_X11_refuseRooms_16 rfl) (u2_d (u1_14 hc_X11_refuseRooms_16 rfl) (u1_15 hc_X11_refuseRooms_16 rfl) rfl) rfl
theorem hc_X11_refuseRooms_32 : ((bL cX11_refuseRooms).drop 32).take 18 = [154, 0, 14, 42, 180, 0, 10, 28, 182, 0, 125, 153, 0, 9, 42, 6, 182, 0] := by decide +kernel
theorem dX11_refuseRooms_32 : decode cX11_refuseRooms 32 = .ok (.ifCond .ne 14, 3) := o_154 (u1_0 hc_X11_refuseRooms_32 rfl) (s2_d (u2_d (u1_1 hc_X11_refuseRooms_32 rfl) (u1_2 hc_X11_refuseRooms_32 rfl) rfl) rfl) rfl
theorem dX11_refuseRooms_35 : decode cX11_refuseRooms 35 = .ok (.aload_n 0, 1) := o_42 (u1_3 hc_X11_refuseRooms_32 rfl) rfl
theorem dX11_refuseRooms_36 : decode cX11_refuseRooms 36 = .ok (.getfield 10, 3) := o_180 (u1_4 hc_X11_refuseRooms_32 rfl) (u2_d (u1_5 hc_X11_refuseRooms_32 rfl) (u1_6 hc_X11_refuseRooms_32 rfl) rfl) rfl
theorem dX11_refuseRooms_39 : decode cX11_refuseRooms 39 = .ok (.iload_n 2, 1) := o_28 (u1_7 hc_X11_refuseRooms_32 rfl) rfl
theorem dX11_refuseRooms_40 : decode cX11_refuseRooms 40 = .ok (.invokevirtual 125, 3) := o_182 (u1_8 hc_X11_refuseRooms_32 rfl) (u2_d (u1_9 hc_X11_refuseRooms_32 rfl) (u1_10 hc_X11_refuseRooms_32 rfl) rfl) rfl
theorem dX11_refuseRooms_43 : decode cX11_refuseRooms 43 = .ok (.ifCond .eq 9, 3) := o_153 (u1_11 hc_X11_refuseRooms_32 rfl) (s2_d (u2_d (u1_12 hc_X11_refuseRooms_32 rfl) (u1_13 hc_X11_refuseRooms_32 rfl) rfl) rfl) rfl
theorem dX11_refuseRooms_46 : decode cX11_refuseRooms 46 = .ok (.aload_n 0, 1) := o_42 (u1_14 hc_X11_refuseRooms_32 rfl) rfl
theorem dX11_refuseRooms_47 : decode cX11_refuseRooms 47 = .ok (.iconst 3, 1) := o_6 (u1_15 hc_X11_refuseRooms_32 rfl) rfl
theorem hc_X11_refuseRooms_48 : ((bL cX11_refuseRooms).drop 48).take 18 = [182, 0, 128, 172, 3, 172] := by decide +kernel
theorem dX11_refuseRooms_48 : decode cX11_refuseRooms 48 = .ok (.invokevirtual 128, 3) := o_182 (u1_0 hc_X11_refuseRooms_48 rfl) (u2_d (u1_1 hc_X11_refuseRooms_48 rfl) (u1_2 hc_X11_refuseRooms_48 rfl) rfl) rfl
theorem dX11_refuseRooms_51 : decode cX11_refuseRooms 51 = .ok (.ireturn, 1) := o_172 (u1_3 hc_X11_refuseRooms_48 rfl) rfl
theorem dX11_refuseRooms_52 : decode cX11_refuseRooms 52 = .ok (.iconst 0, 1) := o_3 (u1_4 hc_X11_refuseRooms_48 rfl) rfl
theorem dX11_refuseRooms_53 : decode cX11_refuseRooms 53 = .ok (.ireturn, 1) := o_172 (u1_5 hc_X11_refuseRooms_48 rfl) rfl
theorem hc_X11_refuseItem_0 : ((bL cX11_refuseItem).drop 0).take 18 = [42, 180, 0, 10, 27, 182, 0, 109, 153, 0, 11, 28, 7, 184, 0, 91, 154, 0] := by decide +kernel
theorem dX11_refuseItem_0 : decode cX11_refuseItem 0 = .ok (.aload_n 0, 1) := o_42 (u1_0 hc_X11_refuseItem_0 rfl) rfl
theorem dX11_refuseItem_1 : decode cX11_refuseItem 1 = .ok (.getfield 10, 3) := o_180 (u1_1 hc_X11_refuseItem_0 rfl) (u2_d (u1_2 hc_X11_refuseItem_0 rfl) (u1_3 hc_X11_refuseItem_0 rfl) rfl) rfl
theorem dX11_refuseItem_4 : decode cX11_refuseItem 4 = .ok (.iload_n 1, 1) := o_27 (u1_4 hc_X11_refuseItem_0 rfl) rfl
theorem dX11_refuseItem_5 : decode cX11_refuseItem 5 = .ok (.invokevirtual 109, 3) := o_182 (u1_5 hc_X11_refuseItem_0 rfl) (u2_d (u1_6 hc_X11_refuseItem_0 rfl) (u1_7 hc_X11_refuseItem_0 rfl) rfl) rfl
theorem dX11_refuseItem_8 : decode cX11_refuseItem 8 = .ok (.ifCond .eq 11, 3) := o_153 (u1_8 hc_X11_refuseItem_0 rfl) (s2_d (u2_d (u1_9 hc_X11_refuseItem_0 rfl) (u1_10 hc_X11_refuseItem_0 rfl) rfl) rfl) rfl
theorem dX11_refuseItem_11 : decode cX11_refuseItem 11 = .ok (.iload_n 2, 1) := o_28 (u1_11 hc_X11_refuseItem_0 rfl) rfl
theorem dX11_refuseItem_12 : decode cX11_refuseItem 12 = .ok (.iconst 4, 1) := o_7 (u1_12 hc_X11_refuseItem_0 rfl) rfl
theorem dX11_refuseItem_13 : decode cX11_refuseItem 13 = .ok (.invokestatic 91, 3) := o_184 (u1_13 hc_X11_refuseItem_0 rfl) (u2_d (u1_14 hc_X11_refuseItem_0 rfl) (u1_15 hc_X11_refuseItem_0 rfl) rfl) rfl
theorem hc_X11_refuseItem_16 : ((bL cX11_refuseItem).drop 16).take 18 = [154, 0, 5, 2, 172, 42, 180, 0, 53, 180, 1, 66, 27, 46, 16, 247, 160, 0] := by decide +kernel
theorem dX11_refuseItem_16 : decode cX11_refuseItem 16 = .ok (.ifCond .ne 5, 3) := o_154 (u1_0 hc_X11_refuseItem_16 rfl) (s2_d (u2_d (u1_1 hc_X11_refuseItem_16 rfl) (u1_2 hc_X11_refuseItem_16 rfl) rfl) rfl) rfl
theorem dX11_refuseItem_19 : decode cX11_refuseItem 19 = .ok (.iconst (-1), 1) := o_2 (u1_3 hc_X11_refuseItem_16 rfl) rfl
theorem dX11_refuseItem_20 : decode cX11_refuseItem 20 = .ok (.ireturn, 1) := o_172 (u1_4 hc_X11_refuseItem_16 rfl) rfl
theorem dX11_refuseItem_21 : decode cX11_refuseItem 21 = .ok (.aload_n 0, 1) := o_42 (u1_5 hc_X11_refuseItem_16 rfl) rfl
theorem dX11_refuseItem_22 : decode cX11_refuseItem 22 = .ok (.getfield 53, 3) := o_180 (u1_6 hc_X11_refuseItem_16 rfl) (u2_d (u1_7 hc_X11_refuseItem_16 rfl) (u1_8 hc_X11_refuseItem_16 rfl) rfl) rfl
theorem dX11_refuseItem_25 : decode cX11_refuseItem 25 = .ok (.getfield 322, 3) := o_180 (u1_9 hc_X11_refuseItem_16 rfl) (u2_d (u1_10 hc_X11_refuseItem_16 rfl) (u1_11 hc_X11_refuseItem_16 rfl) rfl) rfl
theorem dX11_refuseItem_28 : decode cX11_refuseItem 28 = .ok (.iload_n 1, 1) := o_27 (u1_12 hc_X11_refuseItem_16 rfl) rfl
theorem dX11_refuseItem_29 : decode cX11_refuseItem 29 = .ok (.iaload, 1) := o_46 (u1_13 hc_X11_refuseItem_16 rfl) rfl
theorem dX11_refuseItem_30 : decode cX11_refuseItem 30 = .ok (.bipush (-9), 2) := o_16 (u1_14 hc_X11_refuseItem_16 rfl) (s1_d (u1_15 hc_X11_refuseItem_16 rfl) rfl) rfl
theorem hc_X11_refuseItem_32 : ((bL cX11_refuseItem).drop 32).take 18 = [160, 0, 9, 42, 4, 182, 0, 128, 172, 42, 180, 0, 53, 27, 28, 182, 1, 63] := by decide +kernel
theorem dX11_refuseItem_32 : decode cX11_refuseItem 32 = .ok (.if_icmp .ne 9, 3) := o_160 (u1_0 hc_X11_refuseItem_32 rfl) (s2_d (u2_d (u1_1 hc_X11_refuseItem_32 rfl) (u1_2 hc_X11_refuseItem_32 rfl) rfl) rfl) rfl
theorem dX11_refuseItem_35 : decode cX11_refuseItem 35 = .ok (.aload_n 0, 1) := o_42 (u1_3 hc_X11_refuseItem_32 rfl) rfl
theorem dX11_refuseItem_36 : decode cX11_refuseItem 36 = .ok (.iconst 1, 1) := o_4 (u1_4 hc_X11_refuseItem_32 rfl) rfl
theorem dX11_refuseItem_37 : decode cX11_refuseItem 37 = .ok (.invokevirtual 128, 3) := o_182 (u1_5 hc_X11_refuseItem_32 rfl) (u2_d (u1_6 hc_X11_refuseItem_32 rfl) (u1_7 hc_X11_refuseItem_32 rfl) rfl) rfl
theorem dX11_refuseItem_40 : decode cX11_refuseItem 40 = .ok (.ireturn, 1) := o_172 (u1_8 hc_X11_refuseItem_32 rfl) rfl
theorem dX11_refuseItem_41 : decode cX11_refuseItem 41 = .ok (.aload_n 0, 1) := o_42 (u1_9 hc_X11_refuseItem_32 rfl) rfl
theorem dX11_refuseItem_42 : decode cX11_refuseItem 42 = .ok (.getfield 53, 3) := o_180 (u1_10 hc_X11_refuseItem_32 rfl) (u2_d (u1_11 hc_X11_refuseItem_32 rfl) (u1_12 hc_X11_refuseItem_32 rfl) rfl) rfl
theorem dX11_refuseItem_45 : decode cX11_refuseItem 45 = .ok (.iload_n 1, 1) := o_27 (u1_13 hc_X11_refuseItem_32 rfl) rfl
theorem dX11_refuseItem_46 : decode cX11_refuseItem 46 = .ok (.iload_n 2, 1) := o_28 (u1_14 hc_X11_refuseItem_32 rfl) rfl
theorem dX11_refuseItem_47 : decode cX11_refuseItem 47 = .ok (.invokevirtual 319, 3) := o_182 (u1_15 hc_X11_refuseItem_32 rfl) (u2_d (u1_16 hc_X11_refuseItem_32 rfl) (u1_17 hc_X11_refuseItem_32 rfl) rfl) rfl
theorem hc_X11_refuseItem_48 : ((bL cX11_refuseItem).drop 48).take 18 = [1, 63, 153, 0, 9, 42, 6, 182, 0, 128, 172, 29, 42, 180, 0, 53, 180, 1] := by decide +kernel
theorem dX11_refuseItem_50 : decode cX11_refuseItem 50 = .ok (.ifCond .eq 9, 3) := o_153 (u1_2 hc_X11_refuseItem_48 rfl) (s2_d (u2_d (u1_3 hc_X11_refuseItem_48 rfl) (u1_4 hc_X11_refuseItem_48 rfl) rfl) rfl) rfl
theorem dX11_refuseItem_53 : decode cX11_refuseItem 53 = .ok (.aload_n 0, 1) := o_42 (u1_5 hc_X11_refuseItem_48 rfl) rfl
theorem dX11_refuseItem_54 : decode cX11_refuseItem 54 = .ok (.iconst 3, 1) := o_6 (u1_6 hc_X11_refuseItem_48 rfl) rfl
theorem dX11_refuseItem_55 : decode cX11_refuseItem 55 = .ok (.invokevirtual 128, 3) := o_182 (u1_7 hc_X11_refuseItem_48 rfl) (u2_d (u1_8 hc_X11_refuseItem_48 rfl) (u1_9 hc_X11_refuseItem_48 rfl) rfl) rfl
theorem dX11_refuseItem_58 : decode cX11_refuseItem 58 = .ok (.ireturn, 1) := o_172 (u1_10 hc_X11_refuseItem_48 rfl) rfl
theorem dX11_refuseItem_59 : decode cX11_refuseItem 59 = .ok (.iload_n 3, 1) := o_29 (u1_11 hc_X11_refuseItem_48 rfl) rfl
theorem dX11_refuseItem_60 : decode cX11_refuseItem 60 = .ok (.aload_n 0, 1) := o_42 (u1_12 hc_X11_refuseItem_48 rfl) rfl
theorem dX11_refuseItem_61 : decode cX11_refuseItem 61 = .ok (.getfield 53, 3) := o_180 (u1_13 hc_X11_refuseItem_48 rfl) (u2_d (u1_14 hc_X11_refuseItem_48 rfl) (u1_15 hc_X11_refuseItem_48 rfl) rfl) rfl
theorem hc_X11_refuseItem_64 : ((bL cX11_refuseItem).drop 64).take 18 = [180, 1, 117, 27, 46, 184, 0, 91, 153, 0, 7, 3, 167, 0, 8, 42, 5, 182] := by decide +kernel
theorem dX11_refuseItem_64 : decode cX11_refuseItem 64 = .ok (.getfield 373, 3) := o_180 (u1_0 hc_X11_refuseItem_64 rfl) (u2_d (u1_1 hc_X11_refuseItem_64 rfl) (u1_2 hc_X11_refuseItem_64 rfl) rfl) rfl
theorem dX11_refuseItem_67 : decode cX11_refuseItem 67 = .ok (.iload_n 1, 1) := o_27 (u1_3 hc_X11_refuseItem_64 rfl) rfl
theorem dX11_refuseItem_68 : decode cX11_refuseItem 68 = .ok (.iaload, 1) := o_46 (u1_4 hc_X11_refuseItem_64 rfl) rfl
theorem dX11_refuseItem_69 : decode cX11_refuseItem 69 = .ok (.invokestatic 91, 3) := o_184 (u1_5 hc_X11_refuseItem_64 rfl) (u2_d (u1_6 hc_X11_refuseItem_64 rfl) (u1_7 hc_X11_refuseItem_64 rfl) rfl) rfl
theorem dX11_refuseItem_72 : decode cX11_refuseItem 72 = .ok (.ifCond .eq 7, 3) := o_153 (u1_8 hc_X11_refuseItem_64 rfl) (s2_d (u2_d (u1_9 hc_X11_refuseItem_64 rfl) (u1_10 hc_X11_refuseItem_64 rfl) rfl) rfl) rfl
theorem dX11_refuseItem_75 : decode cX11_refuseItem 75 = .ok (.iconst 0, 1) := o_3 (u1_11 hc_X11_refuseItem_64 rfl) rfl
theorem dX11_refuseItem_76 : decode cX11_refuseItem 76 = .ok (.goto 8, 3) := o_167 (u1_12 hc_X11_refuseItem_64 rfl) (s2_d (u2_d (u1_13 hc_X11_refuseItem_64 rfl) (u1_14 hc_X11_refuseItem_64 rfl) rfl) rfl) rfl
theorem dX11_refuseItem_79 : decode cX11_refuseItem 79 = .ok (.aload_n 0, 1) := o_42 (u1_15 hc_X11_refuseItem_64 rfl) rfl
theorem hc_X11_refuseItem_80 : ((bL cX11_refuseItem).drop 80).take 18 = [5, 182, 0, 128, 172] := by decide +kernel
theorem dX11_refuseItem_80 : decode cX11_refuseItem 80 = .ok (.iconst 2, 1) := o_5 (u1_0 hc_X11_refuseItem_80 rfl) rfl
theorem dX11_refuseItem_81 : decode cX11_refuseItem 81 = .ok (.invokevirtual 128, 3) := o_182 (u1_1 hc_X11_refuseItem_80 rfl) (u2_d (u1_2 hc_X11_refuseItem_80 rfl) (u1_3 hc_X11_refuseItem_80 rfl) rfl) rfl
theorem dX11_refuseItem_84 : decode cX11_refuseItem 84 = .ok (.ireturn, 1) := o_172 (u1_4 hc_X11_refuseItem_80 rfl) rfl
theorem hc_X11_isBelow_0 : ((bL cX11_isBelow).drop 0).take 18 = [26, 155, 0, 12, 26, 27, 162, 0, 7, 4, 167, 0, 4, 3, 172] := by decide +kernel
theorem dX11_isBelow_0 : decode cX11_isBelow 0 = .ok (.iload_n 0, 1) := o_26 (u1_0 hc_X11_isBelow_0 rfl) rfl
theorem dX11_isBelow_1 : decode cX11_isBelow 1 = .ok (.ifCond .lt 12, 3) := o_155 (u1_1 hc_X11_isBelow_0 rfl) (s2_d (u2_d (u1_2 hc_X11_isBelow_0 rfl) (u1_3 hc_X11_isBelow_0 rfl) rfl) rfl) rfl
theorem dX11_isBelow_4 : decode cX11_isBelow 4 = .ok (.iload_n 0, 1) := o_26 (u1_4 hc_X11_isBelow_0 rfl) rfl
theorem dX11_isBelow_5 : decode cX11_isBelow 5 = .ok (.iload_n 1, 1) := o_27 (u1_5 hc_X11_isBelow_0 rfl) rfl
theorem dX11_isBelow_6 : decode cX11_isBelow 6 = .ok (.if_icmp .ge 7, 3) := o_162 (u1_6 hc_X11_isBelow_0 rfl) (s2_d (u2_d (u1_7 hc_X11_isBelow_0 rfl) (u1_8 hc_X11_isBelow_0 rfl) rfl) rfl) rfl
theorem dX11_isBelow_9 : decode cX11_isBelow 9 = .ok (.iconst 1, 1) := o_4 (u1_9 hc_X11_isBelow_0 rfl) rfl
theorem dX11_isBelow_10 : decode cX11_isBelow 10 = .ok (.goto 4, 3) := o_167 (u1_10 hc_X11_isBelow_0 rfl) (s2_d (u2_d (u1_11 hc_X11_isBelow_0 rfl) (u1_12 hc_X11_isBelow_0 rfl) rfl) rfl) rfl
theorem dX11_isBelow_13 : decode cX11_isBelow 13 = .ok (.iconst 0, 1) := o_3 (u1_13 hc_X11_isBelow_0 rfl) rfl
theorem dX11_isBelow_14 : decode cX11_isBelow 14 = .ok (.ireturn, 1) := o_172 (u1_14 hc_X11_isBelow_0 rfl) rfl
theorem hc_X11_oneIf_0 : ((bL cX11_oneIf).drop 0).take 18 = [26, 153, 0, 7, 4, 167, 0, 4, 3, 172] := by decide +kernel
theorem dX11_oneIf_0 : decode cX11_oneIf 0 = .ok (.iload_n 0, 1) := o_26 (u1_0 hc_X11_oneIf_0 rfl) rfl
theorem dX11_oneIf_1 : decode cX11_oneIf 1 = .ok (.ifCond .eq 7, 3) := o_153 (u1_1 hc_X11_oneIf_0 rfl) (s2_d (u2_d (u1_2 hc_X11_oneIf_0 rfl) (u1_3 hc_X11_oneIf_0 rfl) rfl) rfl) rfl
theorem dX11_oneIf_4 : decode cX11_oneIf 4 = .ok (.iconst 1, 1) := o_4 (u1_4 hc_X11_oneIf_0 rfl) rfl
theorem dX11_oneIf_5 : decode cX11_oneIf 5 = .ok (.goto 4, 3) := o_167 (u1_5 hc_X11_oneIf_0 rfl) (s2_d (u2_d (u1_6 hc_X11_oneIf_0 rfl) (u1_7 hc_X11_oneIf_0 rfl) rfl) rfl) rfl
theorem dX11_oneIf_8 : decode cX11_oneIf 8 = .ok (.iconst 0, 1) := o_3 (u1_8 hc_X11_oneIf_0 rfl) rfl
theorem dX11_oneIf_9 : decode cX11_oneIf 9 = .ok (.ireturn, 1) := o_172 (u1_9 hc_X11_oneIf_0 rfl) rfl
theorem hc_X11_deedOf_0 : ((bL cX11_deedOf).drop 0).take 18 = [26, 16, 10, 120, 27, 8, 120, 128, 28, 128, 172] := by decide +kernel
theorem dX11_deedOf_0 : decode cX11_deedOf 0 = .ok (.iload_n 0, 1) := o_26 (u1_0 hc_X11_deedOf_0 rfl) rfl
theorem dX11_deedOf_1 : decode cX11_deedOf 1 = .ok (.bipush 10, 2) := o_16 (u1_1 hc_X11_deedOf_0 rfl) (s1_d (u1_2 hc_X11_deedOf_0 rfl) rfl) rfl
theorem dX11_deedOf_3 : decode cX11_deedOf 3 = .ok (.ishl, 1) := o_120 (u1_3 hc_X11_deedOf_0 rfl) rfl
theorem dX11_deedOf_4 : decode cX11_deedOf 4 = .ok (.iload_n 1, 1) := o_27 (u1_4 hc_X11_deedOf_0 rfl) rfl
theorem dX11_deedOf_5 : decode cX11_deedOf 5 = .ok (.iconst 5, 1) := o_8 (u1_5 hc_X11_deedOf_0 rfl) rfl
theorem dX11_deedOf_6 : decode cX11_deedOf 6 = .ok (.ishl, 1) := o_120 (u1_6 hc_X11_deedOf_0 rfl) rfl
theorem dX11_deedOf_7 : decode cX11_deedOf 7 = .ok (.ior, 1) := o_128 (u1_7 hc_X11_deedOf_0 rfl) rfl
theorem dX11_deedOf_8 : decode cX11_deedOf 8 = .ok (.iload_n 2, 1) := o_28 (u1_8 hc_X11_deedOf_0 rfl) rfl
theorem dX11_deedOf_9 : decode cX11_deedOf 9 = .ok (.ior, 1) := o_128 (u1_9 hc_X11_deedOf_0 rfl) rfl
theorem dX11_deedOf_10 : decode cX11_deedOf 10 = .ok (.ireturn, 1) := o_172 (u1_10 hc_X11_deedOf_0 rfl) rfl
theorem hc_X11_deedPart_0 : ((bL cX11_deedPart).drop 0).take 18 = [27, 171, 0, 0, 0, 0, 0, 43, 0, 0, 0, 2, 0, 0, 0, 0, 0, 0] := by decide +kernel
theorem dX11_deedPart_0 : decode cX11_deedPart 0 = .ok (.iload_n 1, 1) := o_27 (u1_0 hc_X11_deedPart_0 rfl) rfl
theorem dX11_deedPart_1 : decode cX11_deedPart 1 = .ok (.lookupswitch 43 #[(0, 27), (1, 34)], 27) := by decide +kernel
theorem hc_X11_deedPart_16 : ((bL cX11_deedPart).drop 16).take 18 = [0, 0, 0, 27, 0, 0, 0, 1, 0, 0, 0, 34, 26, 16, 10, 122, 167, 0] := by decide +kernel
theorem dX11_deedPart_28 : decode cX11_deedPart 28 = .ok (.iload_n 0, 1) := o_26 (u1_12 hc_X11_deedPart_16 rfl) rfl
theorem dX11_deedPart_29 : decode cX11_deedPart 29 = .ok (.bipush 10, 2) := o_16 (u1_13 hc_X11_deedPart_16 rfl) (s1_d (u1_14 hc_X11_deedPart_16 rfl) rfl) rfl
theorem dX11_deedPart_31 : decode cX11_deedPart 31 = .ok (.ishr, 1) := o_122 (u1_15 hc_X11_deedPart_16 rfl) rfl
theorem hc_X11_deedPart_32 : ((bL cX11_deedPart).drop 32).take 18 = [167, 0, 16, 26, 8, 122, 16, 31, 126, 167, 0, 7, 26, 16, 31, 126, 172] := by decide +kernel
theorem dX11_deedPart_32 : decode cX11_deedPart 32 = .ok (.goto 16, 3) := o_167 (u1_0 hc_X11_deedPart_32 rfl) (s2_d (u2_d (u1_1 hc_X11_deedPart_32 rfl) (u1_2 hc_X11_deedPart_32 rfl) rfl) rfl) rfl
theorem dX11_deedPart_35 : decode cX11_deedPart 35 = .ok (.iload_n 0, 1) := o_26 (u1_3 hc_X11_deedPart_32 rfl) rfl
theorem dX11_deedPart_36 : decode cX11_deedPart 36 = .ok (.iconst 5, 1) := o_8 (u1_4 hc_X11_deedPart_32 rfl) rfl
theorem dX11_deedPart_37 : decode cX11_deedPart 37 = .ok (.ishr, 1) := o_122 (u1_5 hc_X11_deedPart_32 rfl) rfl
theorem dX11_deedPart_38 : decode cX11_deedPart 38 = .ok (.bipush 31, 2) := o_16 (u1_6 hc_X11_deedPart_32 rfl) (s1_d (u1_7 hc_X11_deedPart_32 rfl) rfl) rfl
theorem dX11_deedPart_40 : decode cX11_deedPart 40 = .ok (.iand, 1) := o_126 (u1_8 hc_X11_deedPart_32 rfl) rfl
theorem dX11_deedPart_41 : decode cX11_deedPart 41 = .ok (.goto 7, 3) := o_167 (u1_9 hc_X11_deedPart_32 rfl) (s2_d (u2_d (u1_10 hc_X11_deedPart_32 rfl) (u1_11 hc_X11_deedPart_32 rfl) rfl) rfl) rfl
theorem dX11_deedPart_44 : decode cX11_deedPart 44 = .ok (.iload_n 0, 1) := o_26 (u1_12 hc_X11_deedPart_32 rfl) rfl
theorem dX11_deedPart_45 : decode cX11_deedPart 45 = .ok (.bipush 31, 2) := o_16 (u1_13 hc_X11_deedPart_32 rfl) (s1_d (u1_14 hc_X11_deedPart_32 rfl) rfl) rfl
theorem dX11_deedPart_47 : decode cX11_deedPart 47 = .ok (.iand, 1) := o_126 (u1_15 hc_X11_deedPart_32 rfl) rfl
theorem hc_X11_deedPart_48 : ((bL cX11_deedPart).drop 48).take 18 = [172] := by decide +kernel
theorem dX11_deedPart_48 : decode cX11_deedPart 48 = .ok (.ireturn, 1) := o_172 (u1_0 hc_X11_deedPart_48 rfl) rfl
theorem hc_X12_init_0 : ((bL cX12_init).drop 0).take 18 = [42, 183, 0, 1, 42, 16, 7, 188, 10, 181, 0, 7, 42, 16, 24, 188, 10, 181] := by decide +kernel
theorem dX12_init_0 : decode cX12_init 0 = .ok (.aload_n 0, 1) := o_42 (u1_0 hc_X12_init_0 rfl) rfl
theorem dX12_init_1 : decode cX12_init 1 = .ok (.invokespecial 1, 3) := o_183 (u1_1 hc_X12_init_0 rfl) (u2_d (u1_2 hc_X12_init_0 rfl) (u1_3 hc_X12_init_0 rfl) rfl) rfl
theorem dX12_init_4 : decode cX12_init 4 = .ok (.aload_n 0, 1) := o_42 (u1_4 hc_X12_init_0 rfl) rfl
theorem dX12_init_5 : decode cX12_init 5 = .ok (.bipush 7, 2) := o_16 (u1_5 hc_X12_init_0 rfl) (s1_d (u1_6 hc_X12_init_0 rfl) rfl) rfl
theorem dX12_init_7 : decode cX12_init 7 = .ok (.newarray .int, 2) := o_188_10 (u1_7 hc_X12_init_0 rfl) (u1_8 hc_X12_init_0 rfl) rfl
theorem dX12_init_9 : decode cX12_init 9 = .ok (.putfield 7, 3) := o_181 (u1_9 hc_X12_init_0 rfl) (u2_d (u1_10 hc_X12_init_0 rfl) (u1_11 hc_X12_init_0 rfl) rfl) rfl
theorem dX12_init_12 : decode cX12_init 12 = .ok (.aload_n 0, 1) := o_42 (u1_12 hc_X12_init_0 rfl) rfl
theorem dX12_init_13 : decode cX12_init 13 = .ok (.bipush 24, 2) := o_16 (u1_13 hc_X12_init_0 rfl) (s1_d (u1_14 hc_X12_init_0 rfl) rfl) rfl
theorem dX12_init_15 : decode cX12_init 15 = .ok (.newarray .int, 2) := o_188_10 (u1_15 hc_X12_init_0 rfl) (u1_16 hc_X12_init_0 rfl) rfl
theorem hc_X12_init_16 : ((bL cX12_init).drop 16).take 18 = [10, 181, 0, 13, 42, 17, 0, 144, 188, 10, 181, 0, 16, 42, 16, 30, 188, 10] := by decide +kernel
theorem dX12_init_17 : decode cX12_init 17 = .ok (.putfield 13, 3) := o_181 (u1_1 hc_X12_init_16 rfl) (u2_d (u1_2 hc_X12_init_16 rfl) (u1_3 hc_X12_init_16 rfl) rfl) rfl
theorem dX12_init_20 : decode cX12_init 20 = .ok (.aload_n 0, 1) := o_42 (u1_4 hc_X12_init_16 rfl) rfl
theorem dX12_init_21 : decode cX12_init 21 = .ok (.sipush 144, 3) := o_17 (u1_5 hc_X12_init_16 rfl) (s2_d (u2_d (u1_6 hc_X12_init_16 rfl) (u1_7 hc_X12_init_16 rfl) rfl) rfl) rfl
theorem dX12_init_24 : decode cX12_init 24 = .ok (.newarray .int, 2) := o_188_10 (u1_8 hc_X12_init_16 rfl) (u1_9 hc_X12_init_16 rfl) rfl
theorem dX12_init_26 : decode cX12_init 26 = .ok (.putfield 16, 3) := o_181 (u1_10 hc_X12_init_16 rfl) (u2_d (u1_11 hc_X12_init_16 rfl) (u1_12 hc_X12_init_16 rfl) rfl) rfl
theorem dX12_init_29 : decode cX12_init 29 = .ok (.aload_n 0, 1) := o_42 (u1_13 hc_X12_init_16 rfl) rfl
theorem dX12_init_30 : decode cX12_init 30 = .ok (.bipush 30, 2) := o_16 (u1_14 hc_X12_init_16 rfl) (s1_d (u1_15 hc_X12_init_16 rfl) rfl) rfl
theorem hc_X12_init_32 : ((bL cX12_init).drop 32).take 18 = [188, 10, 181, 0, 19, 42, 16, 30, 188, 10, 181, 0, 22, 42, 17, 0, 200, 188] := by decide +kernel
theorem dX12_init_32 : decode cX12_init 32 = .ok (.newarray .int, 2) := o_188_10 (u1_0 hc_X12_init_32 rfl) (u1_1 hc_X12_init_32 rfl) rfl
