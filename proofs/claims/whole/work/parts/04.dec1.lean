theorem DX6_init_0 : fo_dl cX6_init [(0, .aload_n 0, 1), (1, .invokespecial 3, 3), (4, .aload_n 0, 1), (5, .new 9, 3), (8, .dup, 1), (9, .invokespecial 11, 3), (12, .putfield 12, 3), (15, .aload_n 0, 1), (16, .new 9, 3), (19, .dup, 1), (20, .invokespecial 11, 3), (23, .putfield 16, 3), (26, .aload_n 0, 1), (27, .new 19, 3), (30, .dup, 1), (31, .invokespecial 21, 3), (34, .putfield 22, 3), (37, .aload_n 0, 1), (38, .new 26, 3), (41, .dup, 1), (42, .invokespecial 28, 3), (45, .putfield 29, 3), (48, .aload_n 0, 1), (49, .new 33, 3), (52, .dup, 1), (53, .invokespecial 35, 3), (56, .putfield 36, 3), (59, .aload_n 0, 1), (60, .iconst (-1), 1), (61, .putfield 40, 3), (64, .aload_n 0, 1), (65, .iconst (-1), 1), (66, .putfield 44, 3), (69, .return_, 1)] := by decide +kernel
theorem dX6_init_0 : decode cX6_init 0 = .ok (.aload_n 0, 1) := fo_dd DX6_init_0 0 rfl
theorem dX6_init_1 : decode cX6_init 1 = .ok (.invokespecial 3, 3) := fo_dd DX6_init_0 1 rfl
theorem dX6_init_4 : decode cX6_init 4 = .ok (.aload_n 0, 1) := fo_dd DX6_init_0 2 rfl
theorem dX6_init_5 : decode cX6_init 5 = .ok (.new 9, 3) := fo_dd DX6_init_0 3 rfl
theorem dX6_init_8 : decode cX6_init 8 = .ok (.dup, 1) := fo_dd DX6_init_0 4 rfl
theorem dX6_init_9 : decode cX6_init 9 = .ok (.invokespecial 11, 3) := fo_dd DX6_init_0 5 rfl
theorem dX6_init_12 : decode cX6_init 12 = .ok (.putfield 12, 3) := fo_dd DX6_init_0 6 rfl
theorem dX6_init_15 : decode cX6_init 15 = .ok (.aload_n 0, 1) := fo_dd DX6_init_0 7 rfl
theorem dX6_init_16 : decode cX6_init 16 = .ok (.new 9, 3) := fo_dd DX6_init_0 8 rfl
theorem dX6_init_19 : decode cX6_init 19 = .ok (.dup, 1) := fo_dd DX6_init_0 9 rfl
theorem dX6_init_20 : decode cX6_init 20 = .ok (.invokespecial 11, 3) := fo_dd DX6_init_0 10 rfl
theorem dX6_init_23 : decode cX6_init 23 = .ok (.putfield 16, 3) := fo_dd DX6_init_0 11 rfl
theorem dX6_init_26 : decode cX6_init 26 = .ok (.aload_n 0, 1) := fo_dd DX6_init_0 12 rfl
theorem dX6_init_27 : decode cX6_init 27 = .ok (.new 19, 3) := fo_dd DX6_init_0 13 rfl
theorem dX6_init_30 : decode cX6_init 30 = .ok (.dup, 1) := fo_dd DX6_init_0 14 rfl
theorem dX6_init_31 : decode cX6_init 31 = .ok (.invokespecial 21, 3) := fo_dd DX6_init_0 15 rfl
theorem dX6_init_34 : decode cX6_init 34 = .ok (.putfield 22, 3) := fo_dd DX6_init_0 16 rfl
theorem dX6_init_37 : decode cX6_init 37 = .ok (.aload_n 0, 1) := fo_dd DX6_init_0 17 rfl
theorem dX6_init_38 : decode cX6_init 38 = .ok (.new 26, 3) := fo_dd DX6_init_0 18 rfl
theorem dX6_init_41 : decode cX6_init 41 = .ok (.dup, 1) := fo_dd DX6_init_0 19 rfl
theorem dX6_init_42 : decode cX6_init 42 = .ok (.invokespecial 28, 3) := fo_dd DX6_init_0 20 rfl
theorem dX6_init_45 : decode cX6_init 45 = .ok (.putfield 29, 3) := fo_dd DX6_init_0 21 rfl
theorem dX6_init_48 : decode cX6_init 48 = .ok (.aload_n 0, 1) := fo_dd DX6_init_0 22 rfl
theorem dX6_init_49 : decode cX6_init 49 = .ok (.new 33, 3) := fo_dd DX6_init_0 23 rfl
theorem dX6_init_52 : decode cX6_init 52 = .ok (.dup, 1) := fo_dd DX6_init_0 24 rfl
theorem dX6_init_53 : decode cX6_init 53 = .ok (.invokespecial 35, 3) := fo_dd DX6_init_0 25 rfl
theorem dX6_init_56 : decode cX6_init 56 = .ok (.putfield 36, 3) := fo_dd DX6_init_0 26 rfl
theorem dX6_init_59 : decode cX6_init 59 = .ok (.aload_n 0, 1) := fo_dd DX6_init_0 27 rfl
theorem dX6_init_60 : decode cX6_init 60 = .ok (.iconst (-1), 1) := fo_dd DX6_init_0 28 rfl
theorem dX6_init_61 : decode cX6_init 61 = .ok (.putfield 40, 3) := fo_dd DX6_init_0 29 rfl
theorem dX6_init_64 : decode cX6_init 64 = .ok (.aload_n 0, 1) := fo_dd DX6_init_0 30 rfl
theorem dX6_init_65 : decode cX6_init 65 = .ok (.iconst (-1), 1) := fo_dd DX6_init_0 31 rfl
theorem dX6_init_66 : decode cX6_init 66 = .ok (.putfield 44, 3) := fo_dd DX6_init_0 32 rfl
theorem dX6_init_69 : decode cX6_init 69 = .ok (.return_, 1) := fo_dd DX6_init_0 33 rfl
theorem DX6_addProphet_0 : fo_dl cX6_addProphet [(0, .iload_n 1, 1), (1, .invokestatic 47, 3), (4, .ifCond .eq 10, 3), (7, .iload_n 2, 1), (8, .invokestatic 51, 3), (11, .ifCond .ne 11, 3), (14, .new 55, 3), (17, .dup, 1), (18, .invokespecial 57, 3), (21, .athrow, 1), (22, .aload_n 0, 1), (23, .getfield 12, 3), (26, .invokevirtual 58, 3), (29, .ifCond .ne 11, 3), (32, .new 62, 3), (35, .dup, 1), (36, .invokespecial 64, 3), (39, .athrow, 1), (40, .aload_n 0, 1), (41, .invokevirtual 65, 3), (44, .aload_n 0, 1), (45, .getfield 12, 3), (48, .iload_n 1, 1), (49, .iload_n 2, 1), (50, .invokevirtual 68, 3), (53, .ireturn, 1)] := by decide +kernel
theorem dX6_addProphet_0 : decode cX6_addProphet 0 = .ok (.iload_n 1, 1) := fo_dd DX6_addProphet_0 0 rfl
theorem dX6_addProphet_1 : decode cX6_addProphet 1 = .ok (.invokestatic 47, 3) := fo_dd DX6_addProphet_0 1 rfl
theorem dX6_addProphet_4 : decode cX6_addProphet 4 = .ok (.ifCond .eq 10, 3) := fo_dd DX6_addProphet_0 2 rfl
theorem dX6_addProphet_7 : decode cX6_addProphet 7 = .ok (.iload_n 2, 1) := fo_dd DX6_addProphet_0 3 rfl
theorem dX6_addProphet_8 : decode cX6_addProphet 8 = .ok (.invokestatic 51, 3) := fo_dd DX6_addProphet_0 4 rfl
theorem dX6_addProphet_11 : decode cX6_addProphet 11 = .ok (.ifCond .ne 11, 3) := fo_dd DX6_addProphet_0 5 rfl
theorem dX6_addProphet_14 : decode cX6_addProphet 14 = .ok (.new 55, 3) := fo_dd DX6_addProphet_0 6 rfl
theorem dX6_addProphet_17 : decode cX6_addProphet 17 = .ok (.dup, 1) := fo_dd DX6_addProphet_0 7 rfl
theorem dX6_addProphet_18 : decode cX6_addProphet 18 = .ok (.invokespecial 57, 3) := fo_dd DX6_addProphet_0 8 rfl
theorem dX6_addProphet_21 : decode cX6_addProphet 21 = .ok (.athrow, 1) := fo_dd DX6_addProphet_0 9 rfl
theorem dX6_addProphet_22 : decode cX6_addProphet 22 = .ok (.aload_n 0, 1) := fo_dd DX6_addProphet_0 10 rfl
theorem dX6_addProphet_23 : decode cX6_addProphet 23 = .ok (.getfield 12, 3) := fo_dd DX6_addProphet_0 11 rfl
theorem dX6_addProphet_26 : decode cX6_addProphet 26 = .ok (.invokevirtual 58, 3) := fo_dd DX6_addProphet_0 12 rfl
theorem dX6_addProphet_29 : decode cX6_addProphet 29 = .ok (.ifCond .ne 11, 3) := fo_dd DX6_addProphet_0 13 rfl
theorem dX6_addProphet_32 : decode cX6_addProphet 32 = .ok (.new 62, 3) := fo_dd DX6_addProphet_0 14 rfl
theorem dX6_addProphet_35 : decode cX6_addProphet 35 = .ok (.dup, 1) := fo_dd DX6_addProphet_0 15 rfl
theorem dX6_addProphet_36 : decode cX6_addProphet 36 = .ok (.invokespecial 64, 3) := fo_dd DX6_addProphet_0 16 rfl
theorem dX6_addProphet_39 : decode cX6_addProphet 39 = .ok (.athrow, 1) := fo_dd DX6_addProphet_0 17 rfl
theorem dX6_addProphet_40 : decode cX6_addProphet 40 = .ok (.aload_n 0, 1) := fo_dd DX6_addProphet_0 18 rfl
theorem dX6_addProphet_41 : decode cX6_addProphet 41 = .ok (.invokevirtual 65, 3) := fo_dd DX6_addProphet_0 19 rfl
theorem dX6_addProphet_44 : decode cX6_addProphet 44 = .ok (.aload_n 0, 1) := fo_dd DX6_addProphet_0 20 rfl
theorem dX6_addProphet_45 : decode cX6_addProphet 45 = .ok (.getfield 12, 3) := fo_dd DX6_addProphet_0 21 rfl
theorem dX6_addProphet_48 : decode cX6_addProphet 48 = .ok (.iload_n 1, 1) := fo_dd DX6_addProphet_0 22 rfl
theorem dX6_addProphet_49 : decode cX6_addProphet 49 = .ok (.iload_n 2, 1) := fo_dd DX6_addProphet_0 23 rfl
theorem dX6_addProphet_50 : decode cX6_addProphet 50 = .ok (.invokevirtual 68, 3) := fo_dd DX6_addProphet_0 24 rfl
theorem dX6_addProphet_53 : decode cX6_addProphet 53 = .ok (.ireturn, 1) := fo_dd DX6_addProphet_0 25 rfl
theorem DX6_observe_0 : fo_dl cX6_observe [(0, .aload_n 0, 1), (1, .iload_n 1, 1), (2, .invokevirtual 72, 3), (5, .astore_n 3, 1), (6, .iload_n 2, 1), (7, .ifCond .lt 10, 3), (10, .iload_n 2, 1), (11, .sipush 999, 3), (14, .if_icmp .le 11, 3), (17, .new 55, 3), (20, .dup, 1), (21, .invokespecial 57, 3), (24, .athrow, 1), (25, .aload_n 3, 1), (26, .invokevirtual 76, 3), (29, .ifCond .eq 11, 3), (32, .new 62, 3), (35, .dup, 1), (36, .invokespecial 64, 3), (39, .athrow, 1), (40, .aload_n 0, 1), (41, .invokevirtual 65, 3), (44, .aload_n 0, 1), (45, .getfield 12, 3), (48, .iload_n 1, 1), (49, .iload_n 2, 1), (50, .invokevirtual 81, 3), (53, .ireturn, 1)] := by decide +kernel
theorem dX6_observe_0 : decode cX6_observe 0 = .ok (.aload_n 0, 1) := fo_dd DX6_observe_0 0 rfl
theorem dX6_observe_1 : decode cX6_observe 1 = .ok (.iload_n 1, 1) := fo_dd DX6_observe_0 1 rfl
theorem dX6_observe_2 : decode cX6_observe 2 = .ok (.invokevirtual 72, 3) := fo_dd DX6_observe_0 2 rfl
theorem dX6_observe_5 : decode cX6_observe 5 = .ok (.astore_n 3, 1) := fo_dd DX6_observe_0 3 rfl
theorem dX6_observe_6 : decode cX6_observe 6 = .ok (.iload_n 2, 1) := fo_dd DX6_observe_0 4 rfl
theorem dX6_observe_7 : decode cX6_observe 7 = .ok (.ifCond .lt 10, 3) := fo_dd DX6_observe_0 5 rfl
theorem dX6_observe_10 : decode cX6_observe 10 = .ok (.iload_n 2, 1) := fo_dd DX6_observe_0 6 rfl
theorem dX6_observe_11 : decode cX6_observe 11 = .ok (.sipush 999, 3) := fo_dd DX6_observe_0 7 rfl
theorem dX6_observe_14 : decode cX6_observe 14 = .ok (.if_icmp .le 11, 3) := fo_dd DX6_observe_0 8 rfl
theorem dX6_observe_17 : decode cX6_observe 17 = .ok (.new 55, 3) := fo_dd DX6_observe_0 9 rfl
theorem dX6_observe_20 : decode cX6_observe 20 = .ok (.dup, 1) := fo_dd DX6_observe_0 10 rfl
theorem dX6_observe_21 : decode cX6_observe 21 = .ok (.invokespecial 57, 3) := fo_dd DX6_observe_0 11 rfl
theorem dX6_observe_24 : decode cX6_observe 24 = .ok (.athrow, 1) := fo_dd DX6_observe_0 12 rfl
theorem dX6_observe_25 : decode cX6_observe 25 = .ok (.aload_n 3, 1) := fo_dd DX6_observe_0 13 rfl
theorem dX6_observe_26 : decode cX6_observe 26 = .ok (.invokevirtual 76, 3) := fo_dd DX6_observe_0 14 rfl
theorem dX6_observe_29 : decode cX6_observe 29 = .ok (.ifCond .eq 11, 3) := fo_dd DX6_observe_0 15 rfl
theorem dX6_observe_32 : decode cX6_observe 32 = .ok (.new 62, 3) := fo_dd DX6_observe_0 16 rfl
theorem dX6_observe_35 : decode cX6_observe 35 = .ok (.dup, 1) := fo_dd DX6_observe_0 17 rfl
theorem dX6_observe_36 : decode cX6_observe 36 = .ok (.invokespecial 64, 3) := fo_dd DX6_observe_0 18 rfl
theorem dX6_observe_39 : decode cX6_observe 39 = .ok (.athrow, 1) := fo_dd DX6_observe_0 19 rfl
theorem dX6_observe_40 : decode cX6_observe 40 = .ok (.aload_n 0, 1) := fo_dd DX6_observe_0 20 rfl
theorem dX6_observe_41 : decode cX6_observe 41 = .ok (.invokevirtual 65, 3) := fo_dd DX6_observe_0 21 rfl
theorem dX6_observe_44 : decode cX6_observe 44 = .ok (.aload_n 0, 1) := fo_dd DX6_observe_0 22 rfl
theorem dX6_observe_45 : decode cX6_observe 45 = .ok (.getfield 12, 3) := fo_dd DX6_observe_0 23 rfl
theorem dX6_observe_48 : decode cX6_observe 48 = .ok (.iload_n 1, 1) := fo_dd DX6_observe_0 24 rfl
theorem dX6_observe_49 : decode cX6_observe 49 = .ok (.iload_n 2, 1) := fo_dd DX6_observe_0 25 rfl
theorem dX6_observe_50 : decode cX6_observe 50 = .ok (.invokevirtual 81, 3) := fo_dd DX6_observe_0 26 rfl
theorem dX6_observe_53 : decode cX6_observe 53 = .ok (.ireturn, 1) := fo_dd DX6_observe_0 27 rfl
theorem DX6_setLimit_0 : fo_dl cX6_setLimit [(0, .iload_n 1, 1), (1, .invokestatic 51, 3), (4, .ifCond .ne 11, 3), (7, .new 55, 3), (10, .dup, 1), (11, .invokespecial 57, 3), (14, .athrow, 1), (15, .aload_n 0, 1), (16, .invokevirtual 65, 3), (19, .aload_n 0, 1), (20, .getfield 12, 3), (23, .getfield 85, 3), (26, .istore_n 2, 1), (27, .aload_n 0, 1), (28, .getfield 12, 3), (31, .iload_n 1, 1), (32, .putfield 85, 3), (35, .iload_n 2, 1), (36, .ireturn, 1)] := by decide +kernel
theorem dX6_setLimit_0 : decode cX6_setLimit 0 = .ok (.iload_n 1, 1) := fo_dd DX6_setLimit_0 0 rfl
theorem dX6_setLimit_1 : decode cX6_setLimit 1 = .ok (.invokestatic 51, 3) := fo_dd DX6_setLimit_0 1 rfl
theorem dX6_setLimit_4 : decode cX6_setLimit 4 = .ok (.ifCond .ne 11, 3) := fo_dd DX6_setLimit_0 2 rfl
theorem dX6_setLimit_7 : decode cX6_setLimit 7 = .ok (.new 55, 3) := fo_dd DX6_setLimit_0 3 rfl
theorem dX6_setLimit_10 : decode cX6_setLimit 10 = .ok (.dup, 1) := fo_dd DX6_setLimit_0 4 rfl
theorem dX6_setLimit_11 : decode cX6_setLimit 11 = .ok (.invokespecial 57, 3) := fo_dd DX6_setLimit_0 5 rfl
theorem dX6_setLimit_14 : decode cX6_setLimit 14 = .ok (.athrow, 1) := fo_dd DX6_setLimit_0 6 rfl
theorem dX6_setLimit_15 : decode cX6_setLimit 15 = .ok (.aload_n 0, 1) := fo_dd DX6_setLimit_0 7 rfl
theorem dX6_setLimit_16 : decode cX6_setLimit 16 = .ok (.invokevirtual 65, 3) := fo_dd DX6_setLimit_0 8 rfl
theorem dX6_setLimit_19 : decode cX6_setLimit 19 = .ok (.aload_n 0, 1) := fo_dd DX6_setLimit_0 9 rfl
theorem dX6_setLimit_20 : decode cX6_setLimit 20 = .ok (.getfield 12, 3) := fo_dd DX6_setLimit_0 10 rfl
theorem dX6_setLimit_23 : decode cX6_setLimit 23 = .ok (.getfield 85, 3) := fo_dd DX6_setLimit_0 11 rfl
theorem dX6_setLimit_26 : decode cX6_setLimit 26 = .ok (.istore_n 2, 1) := fo_dd DX6_setLimit_0 12 rfl
theorem dX6_setLimit_27 : decode cX6_setLimit 27 = .ok (.aload_n 0, 1) := fo_dd DX6_setLimit_0 13 rfl
theorem dX6_setLimit_28 : decode cX6_setLimit 28 = .ok (.getfield 12, 3) := fo_dd DX6_setLimit_0 14 rfl
theorem dX6_setLimit_31 : decode cX6_setLimit 31 = .ok (.iload_n 1, 1) := fo_dd DX6_setLimit_0 15 rfl
theorem dX6_setLimit_32 : decode cX6_setLimit 32 = .ok (.putfield 85, 3) := fo_dd DX6_setLimit_0 16 rfl
theorem dX6_setLimit_35 : decode cX6_setLimit 35 = .ok (.iload_n 2, 1) := fo_dd DX6_setLimit_0 17 rfl
theorem dX6_setLimit_36 : decode cX6_setLimit 36 = .ok (.ireturn, 1) := fo_dd DX6_setLimit_0 18 rfl
theorem DX6_forget_0 : fo_dl cX6_forget [(0, .aload_n 0, 1), (1, .iload_n 1, 1), (2, .invokevirtual 72, 3), (5, .getfield 88, 3), (8, .istore_n 2, 1), (9, .aload_n 0, 1), (10, .invokevirtual 65, 3), (13, .aload_n 0, 1), (14, .getfield 12, 3), (17, .iload_n 1, 1), (18, .invokevirtual 91, 3), (21, .iload_n 2, 1), (22, .ireturn, 1)] := by decide +kernel
theorem dX6_forget_0 : decode cX6_forget 0 = .ok (.aload_n 0, 1) := fo_dd DX6_forget_0 0 rfl
theorem dX6_forget_1 : decode cX6_forget 1 = .ok (.iload_n 1, 1) := fo_dd DX6_forget_0 1 rfl
theorem dX6_forget_2 : decode cX6_forget 2 = .ok (.invokevirtual 72, 3) := fo_dd DX6_forget_0 2 rfl
theorem dX6_forget_5 : decode cX6_forget 5 = .ok (.getfield 88, 3) := fo_dd DX6_forget_0 3 rfl
theorem dX6_forget_8 : decode cX6_forget 8 = .ok (.istore_n 2, 1) := fo_dd DX6_forget_0 4 rfl
theorem dX6_forget_9 : decode cX6_forget 9 = .ok (.aload_n 0, 1) := fo_dd DX6_forget_0 5 rfl
theorem dX6_forget_10 : decode cX6_forget 10 = .ok (.invokevirtual 65, 3) := fo_dd DX6_forget_0 6 rfl
theorem dX6_forget_13 : decode cX6_forget 13 = .ok (.aload_n 0, 1) := fo_dd DX6_forget_0 7 rfl
theorem dX6_forget_14 : decode cX6_forget 14 = .ok (.getfield 12, 3) := fo_dd DX6_forget_0 8 rfl
theorem dX6_forget_17 : decode cX6_forget 17 = .ok (.iload_n 1, 1) := fo_dd DX6_forget_0 9 rfl
theorem dX6_forget_18 : decode cX6_forget 18 = .ok (.invokevirtual 91, 3) := fo_dd DX6_forget_0 10 rfl
theorem dX6_forget_21 : decode cX6_forget 21 = .ok (.iload_n 2, 1) := fo_dd DX6_forget_0 11 rfl
theorem dX6_forget_22 : decode cX6_forget 22 = .ok (.ireturn, 1) := fo_dd DX6_forget_0 12 rfl
theorem DX6_days_0 : fo_dl cX6_days [(0, .aload_n 0, 1), (1, .iload_n 1, 1), (2, .invokevirtual 72, 3), (5, .getfield 88, 3), (8, .ireturn, 1)] := by decide +kernel
theorem dX6_days_0 : decode cX6_days 0 = .ok (.aload_n 0, 1) := fo_dd DX6_days_0 0 rfl
theorem dX6_days_1 : decode cX6_days 1 = .ok (.iload_n 1, 1) := fo_dd DX6_days_0 1 rfl
theorem dX6_days_2 : decode cX6_days 2 = .ok (.invokevirtual 72, 3) := fo_dd DX6_days_0 2 rfl
theorem dX6_days_5 : decode cX6_days 5 = .ok (.getfield 88, 3) := fo_dd DX6_days_0 3 rfl
theorem dX6_days_8 : decode cX6_days 8 = .ok (.ireturn, 1) := fo_dd DX6_days_0 4 rfl
theorem DX6_value_0 : fo_dl cX6_value [(0, .aload_n 0, 1), (1, .iload_n 1, 1), (2, .invokevirtual 72, 3), (5, .astore_n 3, 1), (6, .aload_n 3, 1), (7, .iload_n 2, 1), (8, .invokevirtual 95, 3), (11, .ifCond .ne 11, 3), (14, .new 98, 3), (17, .dup, 1), (18, .invokespecial 100, 3), (21, .athrow, 1), (22, .aload_n 3, 1), (23, .getfield 101, 3), (26, .iload_n 2, 1), (27, .iaload, 1), (28, .ireturn, 1)] := by decide +kernel
theorem dX6_value_0 : decode cX6_value 0 = .ok (.aload_n 0, 1) := fo_dd DX6_value_0 0 rfl
theorem dX6_value_1 : decode cX6_value 1 = .ok (.iload_n 1, 1) := fo_dd DX6_value_0 1 rfl
theorem dX6_value_2 : decode cX6_value 2 = .ok (.invokevirtual 72, 3) := fo_dd DX6_value_0 2 rfl
theorem dX6_value_5 : decode cX6_value 5 = .ok (.astore_n 3, 1) := fo_dd DX6_value_0 3 rfl
theorem dX6_value_6 : decode cX6_value 6 = .ok (.aload_n 3, 1) := fo_dd DX6_value_0 4 rfl
theorem dX6_value_7 : decode cX6_value 7 = .ok (.iload_n 2, 1) := fo_dd DX6_value_0 5 rfl
theorem dX6_value_8 : decode cX6_value 8 = .ok (.invokevirtual 95, 3) := fo_dd DX6_value_0 6 rfl
theorem dX6_value_11 : decode cX6_value 11 = .ok (.ifCond .ne 11, 3) := fo_dd DX6_value_0 7 rfl
theorem dX6_value_14 : decode cX6_value 14 = .ok (.new 98, 3) := fo_dd DX6_value_0 8 rfl
theorem dX6_value_17 : decode cX6_value 17 = .ok (.dup, 1) := fo_dd DX6_value_0 9 rfl
theorem dX6_value_18 : decode cX6_value 18 = .ok (.invokespecial 100, 3) := fo_dd DX6_value_0 10 rfl
theorem dX6_value_21 : decode cX6_value 21 = .ok (.athrow, 1) := fo_dd DX6_value_0 11 rfl
theorem dX6_value_22 : decode cX6_value 22 = .ok (.aload_n 3, 1) := fo_dd DX6_value_0 12 rfl
theorem dX6_value_23 : decode cX6_value 23 = .ok (.getfield 101, 3) := fo_dd DX6_value_0 13 rfl
theorem dX6_value_26 : decode cX6_value 26 = .ok (.iload_n 2, 1) := fo_dd DX6_value_0 14 rfl
theorem dX6_value_27 : decode cX6_value 27 = .ok (.iaload, 1) := fo_dd DX6_value_0 15 rfl
theorem dX6_value_28 : decode cX6_value 28 = .ok (.ireturn, 1) := fo_dd DX6_value_0 16 rfl
theorem DX6_range_0 : fo_dl cX6_range [(0, .aload_n 0, 1), (1, .iload_n 1, 1), (2, .invokevirtual 72, 3), (5, .astore_n 2, 1), (6, .aload_n 2, 1), (7, .getfield 88, 3), (10, .ifCond .ne 11, 3), (13, .new 98, 3), (16, .dup, 1), (17, .invokespecial 100, 3), (20, .athrow, 1), (21, .aload_n 2, 1), (22, .invokevirtual 105, 3), (25, .ireturn, 1)] := by decide +kernel
theorem dX6_range_0 : decode cX6_range 0 = .ok (.aload_n 0, 1) := fo_dd DX6_range_0 0 rfl
theorem dX6_range_1 : decode cX6_range 1 = .ok (.iload_n 1, 1) := fo_dd DX6_range_0 1 rfl
theorem dX6_range_2 : decode cX6_range 2 = .ok (.invokevirtual 72, 3) := fo_dd DX6_range_0 2 rfl
theorem dX6_range_5 : decode cX6_range 5 = .ok (.astore_n 2, 1) := fo_dd DX6_range_0 3 rfl
theorem dX6_range_6 : decode cX6_range 6 = .ok (.aload_n 2, 1) := fo_dd DX6_range_0 4 rfl
theorem dX6_range_7 : decode cX6_range 7 = .ok (.getfield 88, 3) := fo_dd DX6_range_0 5 rfl
theorem dX6_range_10 : decode cX6_range 10 = .ok (.ifCond .ne 11, 3) := fo_dd DX6_range_0 6 rfl
theorem dX6_range_13 : decode cX6_range 13 = .ok (.new 98, 3) := fo_dd DX6_range_0 7 rfl
theorem dX6_range_16 : decode cX6_range 16 = .ok (.dup, 1) := fo_dd DX6_range_0 8 rfl
theorem dX6_range_17 : decode cX6_range 17 = .ok (.invokespecial 100, 3) := fo_dd DX6_range_0 9 rfl
theorem dX6_range_20 : decode cX6_range 20 = .ok (.athrow, 1) := fo_dd DX6_range_0 10 rfl
theorem dX6_range_21 : decode cX6_range 21 = .ok (.aload_n 2, 1) := fo_dd DX6_range_0 11 rfl
theorem dX6_range_22 : decode cX6_range 22 = .ok (.invokevirtual 105, 3) := fo_dd DX6_range_0 12 rfl
theorem dX6_range_25 : decode cX6_range 25 = .ok (.ireturn, 1) := fo_dd DX6_range_0 13 rfl
theorem DX6_movingAverage_0 : fo_dl cX6_movingAverage [(0, .aload_n 0, 1), (1, .iload_n 1, 1), (2, .iload_n 2, 1), (3, .invokevirtual 109, 3), (6, .astore_n 3, 1), (7, .aload_n 3, 1), (8, .aload_n 3, 1), (9, .getfield 88, 3), (12, .iload_n 2, 1), (13, .invokevirtual 113, 3), (16, .dreturn, 1)] := by decide +kernel
theorem dX6_movingAverage_0 : decode cX6_movingAverage 0 = .ok (.aload_n 0, 1) := fo_dd DX6_movingAverage_0 0 rfl
theorem dX6_movingAverage_1 : decode cX6_movingAverage 1 = .ok (.iload_n 1, 1) := fo_dd DX6_movingAverage_0 1 rfl
theorem dX6_movingAverage_2 : decode cX6_movingAverage 2 = .ok (.iload_n 2, 1) := fo_dd DX6_movingAverage_0 2 rfl
theorem dX6_movingAverage_3 : decode cX6_movingAverage 3 = .ok (.invokevirtual 109, 3) := fo_dd DX6_movingAverage_0 3 rfl
theorem dX6_movingAverage_6 : decode cX6_movingAverage 6 = .ok (.astore_n 3, 1) := fo_dd DX6_movingAverage_0 4 rfl
theorem dX6_movingAverage_7 : decode cX6_movingAverage 7 = .ok (.aload_n 3, 1) := fo_dd DX6_movingAverage_0 5 rfl
theorem dX6_movingAverage_8 : decode cX6_movingAverage 8 = .ok (.aload_n 3, 1) := fo_dd DX6_movingAverage_0 6 rfl
theorem dX6_movingAverage_9 : decode cX6_movingAverage 9 = .ok (.getfield 88, 3) := fo_dd DX6_movingAverage_0 7 rfl
theorem dX6_movingAverage_12 : decode cX6_movingAverage 12 = .ok (.iload_n 2, 1) := fo_dd DX6_movingAverage_0 8 rfl
theorem dX6_movingAverage_13 : decode cX6_movingAverage 13 = .ok (.invokevirtual 113, 3) := fo_dd DX6_movingAverage_0 9 rfl
theorem dX6_movingAverage_16 : decode cX6_movingAverage 16 = .ok (.dreturn, 1) := fo_dd DX6_movingAverage_0 10 rfl
theorem DX6_movingAverageBySums_0 : fo_dl cX6_movingAverageBySums [(0, .aload_n 0, 1), (1, .iload_n 1, 1), (2, .iload_n 2, 1), (3, .invokevirtual 109, 3), (6, .iload_n 2, 1), (7, .invokevirtual 117, 3), (10, .dreturn, 1)] := by decide +kernel
theorem dX6_movingAverageBySums_0 : decode cX6_movingAverageBySums 0 = .ok (.aload_n 0, 1) := fo_dd DX6_movingAverageBySums_0 0 rfl
theorem dX6_movingAverageBySums_1 : decode cX6_movingAverageBySums 1 = .ok (.iload_n 1, 1) := fo_dd DX6_movingAverageBySums_0 1 rfl
theorem dX6_movingAverageBySums_2 : decode cX6_movingAverageBySums 2 = .ok (.iload_n 2, 1) := fo_dd DX6_movingAverageBySums_0 2 rfl
theorem dX6_movingAverageBySums_3 : decode cX6_movingAverageBySums 3 = .ok (.invokevirtual 109, 3) := fo_dd DX6_movingAverageBySums_0 3 rfl
theorem dX6_movingAverageBySums_6 : decode cX6_movingAverageBySums 6 = .ok (.iload_n 2, 1) := fo_dd DX6_movingAverageBySums_0 4 rfl
theorem dX6_movingAverageBySums_7 : decode cX6_movingAverageBySums 7 = .ok (.invokevirtual 117, 3) := fo_dd DX6_movingAverageBySums_0 5 rfl
theorem dX6_movingAverageBySums_10 : decode cX6_movingAverageBySums 10 = .ok (.dreturn, 1) := fo_dd DX6_movingAverageBySums_0 6 rfl
theorem DX6_median_0 : fo_dl cX6_median [(0, .aload_n 0, 1), (1, .iload_n 1, 1), (2, .iload_n 2, 1), (3, .invokevirtual 109, 3), (6, .astore_n 3, 1), (7, .aload_n 3, 1), (8, .aload_n 3, 1), (9, .getfield 101, 3), (12, .aload_n 3, 1), (13, .getfield 88, 3), (16, .iload_n 2, 1), (17, .isub, 1), (18, .iload_n 2, 1), (19, .invokevirtual 121, 3), (22, .ireturn, 1)] := by decide +kernel
theorem dX6_median_0 : decode cX6_median 0 = .ok (.aload_n 0, 1) := fo_dd DX6_median_0 0 rfl
theorem dX6_median_1 : decode cX6_median 1 = .ok (.iload_n 1, 1) := fo_dd DX6_median_0 1 rfl
theorem dX6_median_2 : decode cX6_median 2 = .ok (.iload_n 2, 1) := fo_dd DX6_median_0 2 rfl
theorem dX6_median_3 : decode cX6_median 3 = .ok (.invokevirtual 109, 3) := fo_dd DX6_median_0 3 rfl
theorem dX6_median_6 : decode cX6_median 6 = .ok (.astore_n 3, 1) := fo_dd DX6_median_0 4 rfl
theorem dX6_median_7 : decode cX6_median 7 = .ok (.aload_n 3, 1) := fo_dd DX6_median_0 5 rfl
theorem dX6_median_8 : decode cX6_median 8 = .ok (.aload_n 3, 1) := fo_dd DX6_median_0 6 rfl
theorem dX6_median_9 : decode cX6_median 9 = .ok (.getfield 101, 3) := fo_dd DX6_median_0 7 rfl
theorem dX6_median_12 : decode cX6_median 12 = .ok (.aload_n 3, 1) := fo_dd DX6_median_0 8 rfl
theorem dX6_median_13 : decode cX6_median 13 = .ok (.getfield 88, 3) := fo_dd DX6_median_0 9 rfl
theorem dX6_median_16 : decode cX6_median 16 = .ok (.iload_n 2, 1) := fo_dd DX6_median_0 10 rfl
theorem dX6_median_17 : decode cX6_median 17 = .ok (.isub, 1) := fo_dd DX6_median_0 11 rfl
theorem dX6_median_18 : decode cX6_median 18 = .ok (.iload_n 2, 1) := fo_dd DX6_median_0 12 rfl
theorem dX6_median_19 : decode cX6_median 19 = .ok (.invokevirtual 121, 3) := fo_dd DX6_median_0 13 rfl
theorem dX6_median_22 : decode cX6_median 22 = .ok (.ireturn, 1) := fo_dd DX6_median_0 14 rfl
theorem DX6_medianByCounting_0 : fo_dl cX6_medianByCounting [(0, .aload_n 0, 1), (1, .iload_n 1, 1), (2, .iload_n 2, 1), (3, .invokevirtual 109, 3), (6, .iload_n 2, 1), (7, .invokevirtual 125, 3), (10, .ireturn, 1)] := by decide +kernel
theorem dX6_medianByCounting_0 : decode cX6_medianByCounting 0 = .ok (.aload_n 0, 1) := fo_dd DX6_medianByCounting_0 0 rfl
theorem dX6_medianByCounting_1 : decode cX6_medianByCounting 1 = .ok (.iload_n 1, 1) := fo_dd DX6_medianByCounting_0 1 rfl
theorem dX6_medianByCounting_2 : decode cX6_medianByCounting 2 = .ok (.iload_n 2, 1) := fo_dd DX6_medianByCounting_0 2 rfl
theorem dX6_medianByCounting_3 : decode cX6_medianByCounting 3 = .ok (.invokevirtual 109, 3) := fo_dd DX6_medianByCounting_0 3 rfl
theorem dX6_medianByCounting_6 : decode cX6_medianByCounting 6 = .ok (.iload_n 2, 1) := fo_dd DX6_medianByCounting_0 4 rfl
theorem dX6_medianByCounting_7 : decode cX6_medianByCounting 7 = .ok (.invokevirtual 125, 3) := fo_dd DX6_medianByCounting_0 5 rfl
theorem dX6_medianByCounting_10 : decode cX6_medianByCounting 10 = .ok (.ireturn, 1) := fo_dd DX6_medianByCounting_0 6 rfl
theorem DX6_smoothed_0 : fo_dl cX6_smoothed [(0, .aload_n 0, 1), (1, .iload_n 1, 1), (2, .invokevirtual 72, 3), (5, .astore_n 3, 1), (6, .iload_n 2, 1), (7, .invokestatic 51, 3), (10, .ifCond .ne 11, 3), (13, .new 55, 3), (16, .dup, 1), (17, .invokespecial 57, 3), (20, .athrow, 1), (21, .aload_n 3, 1), (22, .getfield 88, 3), (25, .ifCond .ne 11, 3), (28, .new 98, 3), (31, .dup, 1), (32, .invokespecial 100, 3), (35, .athrow, 1), (36, .aload_n 3, 1), (37, .aload_n 3, 1), (38, .getfield 88, 3), (41, .iload_n 2, 1), (42, .invokevirtual 129, 3), (45, .dreturn, 1)] := by decide +kernel
theorem dX6_smoothed_0 : decode cX6_smoothed 0 = .ok (.aload_n 0, 1) := fo_dd DX6_smoothed_0 0 rfl
theorem dX6_smoothed_1 : decode cX6_smoothed 1 = .ok (.iload_n 1, 1) := fo_dd DX6_smoothed_0 1 rfl
theorem dX6_smoothed_2 : decode cX6_smoothed 2 = .ok (.invokevirtual 72, 3) := fo_dd DX6_smoothed_0 2 rfl
theorem dX6_smoothed_5 : decode cX6_smoothed 5 = .ok (.astore_n 3, 1) := fo_dd DX6_smoothed_0 3 rfl
theorem dX6_smoothed_6 : decode cX6_smoothed 6 = .ok (.iload_n 2, 1) := fo_dd DX6_smoothed_0 4 rfl
theorem dX6_smoothed_7 : decode cX6_smoothed 7 = .ok (.invokestatic 51, 3) := fo_dd DX6_smoothed_0 5 rfl
theorem dX6_smoothed_10 : decode cX6_smoothed 10 = .ok (.ifCond .ne 11, 3) := fo_dd DX6_smoothed_0 6 rfl
theorem dX6_smoothed_13 : decode cX6_smoothed 13 = .ok (.new 55, 3) := fo_dd DX6_smoothed_0 7 rfl
theorem dX6_smoothed_16 : decode cX6_smoothed 16 = .ok (.dup, 1) := fo_dd DX6_smoothed_0 8 rfl
theorem dX6_smoothed_17 : decode cX6_smoothed 17 = .ok (.invokespecial 57, 3) := fo_dd DX6_smoothed_0 9 rfl
theorem dX6_smoothed_20 : decode cX6_smoothed 20 = .ok (.athrow, 1) := fo_dd DX6_smoothed_0 10 rfl
theorem dX6_smoothed_21 : decode cX6_smoothed 21 = .ok (.aload_n 3, 1) := fo_dd DX6_smoothed_0 11 rfl
theorem dX6_smoothed_22 : decode cX6_smoothed 22 = .ok (.getfield 88, 3) := fo_dd DX6_smoothed_0 12 rfl
theorem dX6_smoothed_25 : decode cX6_smoothed 25 = .ok (.ifCond .ne 11, 3) := fo_dd DX6_smoothed_0 13 rfl
theorem dX6_smoothed_28 : decode cX6_smoothed 28 = .ok (.new 98, 3) := fo_dd DX6_smoothed_0 14 rfl
theorem dX6_smoothed_31 : decode cX6_smoothed 31 = .ok (.dup, 1) := fo_dd DX6_smoothed_0 15 rfl
theorem dX6_smoothed_32 : decode cX6_smoothed 32 = .ok (.invokespecial 100, 3) := fo_dd DX6_smoothed_0 16 rfl
theorem dX6_smoothed_35 : decode cX6_smoothed 35 = .ok (.athrow, 1) := fo_dd DX6_smoothed_0 17 rfl
theorem dX6_smoothed_36 : decode cX6_smoothed 36 = .ok (.aload_n 3, 1) := fo_dd DX6_smoothed_0 18 rfl
theorem dX6_smoothed_37 : decode cX6_smoothed 37 = .ok (.aload_n 3, 1) := fo_dd DX6_smoothed_0 19 rfl
theorem dX6_smoothed_38 : decode cX6_smoothed 38 = .ok (.getfield 88, 3) := fo_dd DX6_smoothed_0 20 rfl
theorem dX6_smoothed_41 : decode cX6_smoothed 41 = .ok (.iload_n 2, 1) := fo_dd DX6_smoothed_0 21 rfl
theorem dX6_smoothed_42 : decode cX6_smoothed 42 = .ok (.invokevirtual 129, 3) := fo_dd DX6_smoothed_0 22 rfl
theorem dX6_smoothed_45 : decode cX6_smoothed 45 = .ok (.dreturn, 1) := fo_dd DX6_smoothed_0 23 rfl
theorem DX6_isOutlier_0 : fo_dl cX6_isOutlier [(0, .aload_n 0, 1), (1, .iload_n 1, 1), (2, .invokevirtual 72, 3), (5, .astore_n 3, 1), (6, .aload_n 3, 1), (7, .iload_n 2, 1), (8, .invokevirtual 95, 3), (11, .ifCond .ne 11, 3), (14, .new 98, 3), (17, .dup, 1), (18, .invokespecial 100, 3), (21, .athrow, 1), (22, .aload_n 3, 1), (23, .iload_n 2, 1), (24, .aload_n 0, 1), (25, .getfield 12, 3), (28, .getfield 85, 3), (31, .invokevirtual 132, 3), (34, .ireturn, 1)] := by decide +kernel
theorem dX6_isOutlier_0 : decode cX6_isOutlier 0 = .ok (.aload_n 0, 1) := fo_dd DX6_isOutlier_0 0 rfl
theorem dX6_isOutlier_1 : decode cX6_isOutlier 1 = .ok (.iload_n 1, 1) := fo_dd DX6_isOutlier_0 1 rfl
theorem dX6_isOutlier_2 : decode cX6_isOutlier 2 = .ok (.invokevirtual 72, 3) := fo_dd DX6_isOutlier_0 2 rfl
theorem dX6_isOutlier_5 : decode cX6_isOutlier 5 = .ok (.astore_n 3, 1) := fo_dd DX6_isOutlier_0 3 rfl
theorem dX6_isOutlier_6 : decode cX6_isOutlier 6 = .ok (.aload_n 3, 1) := fo_dd DX6_isOutlier_0 4 rfl
theorem dX6_isOutlier_7 : decode cX6_isOutlier 7 = .ok (.iload_n 2, 1) := fo_dd DX6_isOutlier_0 5 rfl
theorem dX6_isOutlier_8 : decode cX6_isOutlier 8 = .ok (.invokevirtual 95, 3) := fo_dd DX6_isOutlier_0 6 rfl
theorem dX6_isOutlier_11 : decode cX6_isOutlier 11 = .ok (.ifCond .ne 11, 3) := fo_dd DX6_isOutlier_0 7 rfl
theorem dX6_isOutlier_14 : decode cX6_isOutlier 14 = .ok (.new 98, 3) := fo_dd DX6_isOutlier_0 8 rfl
theorem dX6_isOutlier_17 : decode cX6_isOutlier 17 = .ok (.dup, 1) := fo_dd DX6_isOutlier_0 9 rfl
theorem dX6_isOutlier_18 : decode cX6_isOutlier 18 = .ok (.invokespecial 100, 3) := fo_dd DX6_isOutlier_0 10 rfl
theorem dX6_isOutlier_21 : decode cX6_isOutlier 21 = .ok (.athrow, 1) := fo_dd DX6_isOutlier_0 11 rfl
theorem dX6_isOutlier_22 : decode cX6_isOutlier 22 = .ok (.aload_n 3, 1) := fo_dd DX6_isOutlier_0 12 rfl
theorem dX6_isOutlier_23 : decode cX6_isOutlier 23 = .ok (.iload_n 2, 1) := fo_dd DX6_isOutlier_0 13 rfl
theorem dX6_isOutlier_24 : decode cX6_isOutlier 24 = .ok (.aload_n 0, 1) := fo_dd DX6_isOutlier_0 14 rfl
theorem dX6_isOutlier_25 : decode cX6_isOutlier 25 = .ok (.getfield 12, 3) := fo_dd DX6_isOutlier_0 15 rfl
theorem dX6_isOutlier_28 : decode cX6_isOutlier 28 = .ok (.getfield 85, 3) := fo_dd DX6_isOutlier_0 16 rfl
theorem dX6_isOutlier_31 : decode cX6_isOutlier 31 = .ok (.invokevirtual 132, 3) := fo_dd DX6_isOutlier_0 17 rfl
theorem dX6_isOutlier_34 : decode cX6_isOutlier 34 = .ok (.ireturn, 1) := fo_dd DX6_isOutlier_0 18 rfl
theorem DX6_outliers_0 : fo_dl cX6_outliers [(0, .aload_n 0, 1), (1, .iload_n 1, 1), (2, .invokevirtual 72, 3), (5, .aload_n 0, 1), (6, .getfield 12, 3), (9, .getfield 85, 3), (12, .invokevirtual 136, 3), (15, .ireturn, 1)] := by decide +kernel
theorem dX6_outliers_0 : decode cX6_outliers 0 = .ok (.aload_n 0, 1) := fo_dd DX6_outliers_0 0 rfl
theorem dX6_outliers_1 : decode cX6_outliers 1 = .ok (.iload_n 1, 1) := fo_dd DX6_outliers_0 1 rfl
theorem dX6_outliers_2 : decode cX6_outliers 2 = .ok (.invokevirtual 72, 3) := fo_dd DX6_outliers_0 2 rfl
theorem dX6_outliers_5 : decode cX6_outliers 5 = .ok (.aload_n 0, 1) := fo_dd DX6_outliers_0 3 rfl
theorem dX6_outliers_6 : decode cX6_outliers 6 = .ok (.getfield 12, 3) := fo_dd DX6_outliers_0 4 rfl
theorem dX6_outliers_9 : decode cX6_outliers 9 = .ok (.getfield 85, 3) := fo_dd DX6_outliers_0 5 rfl
theorem dX6_outliers_12 : decode cX6_outliers 12 = .ok (.invokevirtual 136, 3) := fo_dd DX6_outliers_0 6 rfl
theorem dX6_outliers_15 : decode cX6_outliers 15 = .ok (.ireturn, 1) := fo_dd DX6_outliers_0 7 rfl
theorem DX6_longestRise_0 : fo_dl cX6_longestRise [(0, .aload_n 0, 1), (1, .iload_n 1, 1), (2, .invokevirtual 72, 3), (5, .invokevirtual 139, 3), (8, .ireturn, 1)] := by decide +kernel
theorem dX6_longestRise_0 : decode cX6_longestRise 0 = .ok (.aload_n 0, 1) := fo_dd DX6_longestRise_0 0 rfl
theorem dX6_longestRise_1 : decode cX6_longestRise 1 = .ok (.iload_n 1, 1) := fo_dd DX6_longestRise_0 1 rfl
theorem dX6_longestRise_2 : decode cX6_longestRise 2 = .ok (.invokevirtual 72, 3) := fo_dd DX6_longestRise_0 2 rfl
theorem dX6_longestRise_5 : decode cX6_longestRise 5 = .ok (.invokevirtual 139, 3) := fo_dd DX6_longestRise_0 3 rfl
theorem dX6_longestRise_8 : decode cX6_longestRise 8 = .ok (.ireturn, 1) := fo_dd DX6_longestRise_0 4 rfl
theorem DX6_valuesBetween_0 : fo_dl cX6_valuesBetween [(0, .aload_n 0, 1), (1, .iload_n 1, 1), (2, .invokevirtual 72, 3), (5, .iload_n 2, 1), (6, .iload_n 3, 1), (7, .invokevirtual 142, 3), (10, .ireturn, 1)] := by decide +kernel
theorem dX6_valuesBetween_0 : decode cX6_valuesBetween 0 = .ok (.aload_n 0, 1) := fo_dd DX6_valuesBetween_0 0 rfl
theorem dX6_valuesBetween_1 : decode cX6_valuesBetween 1 = .ok (.iload_n 1, 1) := fo_dd DX6_valuesBetween_0 1 rfl
theorem dX6_valuesBetween_2 : decode cX6_valuesBetween 2 = .ok (.invokevirtual 72, 3) := fo_dd DX6_valuesBetween_0 2 rfl
theorem dX6_valuesBetween_5 : decode cX6_valuesBetween 5 = .ok (.iload_n 2, 1) := fo_dd DX6_valuesBetween_0 3 rfl
theorem dX6_valuesBetween_6 : decode cX6_valuesBetween 6 = .ok (.iload_n 3, 1) := fo_dd DX6_valuesBetween_0 4 rfl
theorem dX6_valuesBetween_7 : decode cX6_valuesBetween 7 = .ok (.invokevirtual 142, 3) := fo_dd DX6_valuesBetween_0 5 rfl
theorem dX6_valuesBetween_10 : decode cX6_valuesBetween 10 = .ok (.ireturn, 1) := fo_dd DX6_valuesBetween_0 6 rfl
theorem DX6_limit_0 : fo_dl cX6_limit [(0, .aload_n 0, 1), (1, .getfield 12, 3), (4, .getfield 85, 3), (7, .ireturn, 1)] := by decide +kernel
theorem dX6_limit_0 : decode cX6_limit 0 = .ok (.aload_n 0, 1) := fo_dd DX6_limit_0 0 rfl
theorem dX6_limit_1 : decode cX6_limit 1 = .ok (.getfield 12, 3) := fo_dd DX6_limit_0 1 rfl
theorem dX6_limit_4 : decode cX6_limit 4 = .ok (.getfield 85, 3) := fo_dd DX6_limit_0 2 rfl
theorem dX6_limit_7 : decode cX6_limit 7 = .ok (.ireturn, 1) := fo_dd DX6_limit_0 3 rfl
theorem DX6_prophets_0 : fo_dl cX6_prophets [(0, .aload_n 0, 1), (1, .getfield 12, 3), (4, .getfield 145, 3), (7, .ireturn, 1)] := by decide +kernel
theorem dX6_prophets_0 : decode cX6_prophets 0 = .ok (.aload_n 0, 1) := fo_dd DX6_prophets_0 0 rfl
theorem dX6_prophets_1 : decode cX6_prophets 1 = .ok (.getfield 12, 3) := fo_dd DX6_prophets_0 1 rfl
theorem dX6_prophets_4 : decode cX6_prophets 4 = .ok (.getfield 145, 3) := fo_dd DX6_prophets_0 2 rfl
theorem dX6_prophets_7 : decode cX6_prophets 7 = .ok (.ireturn, 1) := fo_dd DX6_prophets_0 3 rfl
theorem DX6_kind_0 : fo_dl cX6_kind [(0, .aload_n 0, 1), (1, .iload_n 1, 1), (2, .invokevirtual 148, 3), (5, .getfield 152, 3), (8, .ireturn, 1)] := by decide +kernel
theorem dX6_kind_0 : decode cX6_kind 0 = .ok (.aload_n 0, 1) := fo_dd DX6_kind_0 0 rfl
theorem dX6_kind_1 : decode cX6_kind 1 = .ok (.iload_n 1, 1) := fo_dd DX6_kind_0 1 rfl
theorem dX6_kind_2 : decode cX6_kind 2 = .ok (.invokevirtual 148, 3) := fo_dd DX6_kind_0 2 rfl
theorem dX6_kind_5 : decode cX6_kind 5 = .ok (.getfield 152, 3) := fo_dd DX6_kind_0 3 rfl
theorem dX6_kind_8 : decode cX6_kind 8 = .ok (.ireturn, 1) := fo_dd DX6_kind_0 4 rfl
theorem DX6_parameter_0 : fo_dl cX6_parameter [(0, .aload_n 0, 1), (1, .iload_n 1, 1), (2, .invokevirtual 148, 3), (5, .getfield 158, 3), (8, .ireturn, 1)] := by decide +kernel
theorem dX6_parameter_0 : decode cX6_parameter 0 = .ok (.aload_n 0, 1) := fo_dd DX6_parameter_0 0 rfl
theorem dX6_parameter_1 : decode cX6_parameter 1 = .ok (.iload_n 1, 1) := fo_dd DX6_parameter_0 1 rfl
theorem dX6_parameter_2 : decode cX6_parameter 2 = .ok (.invokevirtual 148, 3) := fo_dd DX6_parameter_0 2 rfl
theorem dX6_parameter_5 : decode cX6_parameter 5 = .ok (.getfield 158, 3) := fo_dd DX6_parameter_0 3 rfl
theorem dX6_parameter_8 : decode cX6_parameter 8 = .ok (.ireturn, 1) := fo_dd DX6_parameter_0 4 rfl
theorem DX6_hasForecast_0 : fo_dl cX6_hasForecast [(0, .aload_n 0, 1), (1, .iload_n 1, 1), (2, .invokevirtual 148, 3), (5, .astore_n 3, 1), (6, .aload_n 3, 1), (7, .aload_n 0, 1), (8, .iload_n 2, 1), (9, .invokevirtual 72, 3), (12, .getfield 88, 3), (15, .invokevirtual 161, 3), (18, .ireturn, 1)] := by decide +kernel
theorem dX6_hasForecast_0 : decode cX6_hasForecast 0 = .ok (.aload_n 0, 1) := fo_dd DX6_hasForecast_0 0 rfl
theorem dX6_hasForecast_1 : decode cX6_hasForecast 1 = .ok (.iload_n 1, 1) := fo_dd DX6_hasForecast_0 1 rfl
theorem dX6_hasForecast_2 : decode cX6_hasForecast 2 = .ok (.invokevirtual 148, 3) := fo_dd DX6_hasForecast_0 2 rfl
theorem dX6_hasForecast_5 : decode cX6_hasForecast 5 = .ok (.astore_n 3, 1) := fo_dd DX6_hasForecast_0 3 rfl
theorem dX6_hasForecast_6 : decode cX6_hasForecast 6 = .ok (.aload_n 3, 1) := fo_dd DX6_hasForecast_0 4 rfl
theorem dX6_hasForecast_7 : decode cX6_hasForecast 7 = .ok (.aload_n 0, 1) := fo_dd DX6_hasForecast_0 5 rfl
theorem dX6_hasForecast_8 : decode cX6_hasForecast 8 = .ok (.iload_n 2, 1) := fo_dd DX6_hasForecast_0 6 rfl
theorem dX6_hasForecast_9 : decode cX6_hasForecast 9 = .ok (.invokevirtual 72, 3) := fo_dd DX6_hasForecast_0 7 rfl
theorem dX6_hasForecast_12 : decode cX6_hasForecast 12 = .ok (.getfield 88, 3) := fo_dd DX6_hasForecast_0 8 rfl
theorem dX6_hasForecast_15 : decode cX6_hasForecast 15 = .ok (.invokevirtual 161, 3) := fo_dd DX6_hasForecast_0 9 rfl
theorem dX6_hasForecast_18 : decode cX6_hasForecast 18 = .ok (.ireturn, 1) := fo_dd DX6_hasForecast_0 10 rfl
theorem DX6_forecast_0 : fo_dl cX6_forecast [(0, .aload_n 0, 1), (1, .iload_n 1, 1), (2, .iload_n 2, 1), (3, .invokevirtual 164, 3), (6, .dreturn, 1)] := by decide +kernel
theorem dX6_forecast_0 : decode cX6_forecast 0 = .ok (.aload_n 0, 1) := fo_dd DX6_forecast_0 0 rfl
theorem dX6_forecast_1 : decode cX6_forecast 1 = .ok (.iload_n 1, 1) := fo_dd DX6_forecast_0 1 rfl
theorem dX6_forecast_2 : decode cX6_forecast 2 = .ok (.iload_n 2, 1) := fo_dd DX6_forecast_0 2 rfl
theorem dX6_forecast_3 : decode cX6_forecast 3 = .ok (.invokevirtual 164, 3) := fo_dd DX6_forecast_0 3 rfl
theorem dX6_forecast_6 : decode cX6_forecast 6 = .ok (.dreturn, 1) := fo_dd DX6_forecast_0 4 rfl
theorem DX6_forecastBits_0 : fo_dl cX6_forecastBits [(0, .aload_n 0, 1), (1, .iload_n 1, 1), (2, .iload_n 2, 1), (3, .invokevirtual 164, 3), (6, .invokestatic 167, 3), (9, .lreturn, 1)] := by decide +kernel
theorem dX6_forecastBits_0 : decode cX6_forecastBits 0 = .ok (.aload_n 0, 1) := fo_dd DX6_forecastBits_0 0 rfl
theorem dX6_forecastBits_1 : decode cX6_forecastBits 1 = .ok (.iload_n 1, 1) := fo_dd DX6_forecastBits_0 1 rfl
theorem dX6_forecastBits_2 : decode cX6_forecastBits 2 = .ok (.iload_n 2, 1) := fo_dd DX6_forecastBits_0 2 rfl
theorem dX6_forecastBits_3 : decode cX6_forecastBits 3 = .ok (.invokevirtual 164, 3) := fo_dd DX6_forecastBits_0 3 rfl
theorem dX6_forecastBits_6 : decode cX6_forecastBits 6 = .ok (.invokestatic 167, 3) := fo_dd DX6_forecastBits_0 4 rfl
theorem dX6_forecastBits_9 : decode cX6_forecastBits 9 = .ok (.lreturn, 1) := fo_dd DX6_forecastBits_0 5 rfl
theorem DX6_errors_0 : fo_dl cX6_errors [(0, .aload_n 0, 1), (1, .iload_n 1, 1), (2, .invokevirtual 148, 3), (5, .astore_n 3, 1), (6, .iload_n 2, 1), (7, .invokestatic 171, 3), (10, .aload_n 3, 1), (11, .getfield 174, 3), (14, .iload_n 2, 1), (15, .iaload, 1), (16, .ireturn, 1)] := by decide +kernel
theorem dX6_errors_0 : decode cX6_errors 0 = .ok (.aload_n 0, 1) := fo_dd DX6_errors_0 0 rfl
theorem dX6_errors_1 : decode cX6_errors 1 = .ok (.iload_n 1, 1) := fo_dd DX6_errors_0 1 rfl
theorem dX6_errors_2 : decode cX6_errors 2 = .ok (.invokevirtual 148, 3) := fo_dd DX6_errors_0 2 rfl
theorem dX6_errors_5 : decode cX6_errors 5 = .ok (.astore_n 3, 1) := fo_dd DX6_errors_0 3 rfl
theorem dX6_errors_6 : decode cX6_errors 6 = .ok (.iload_n 2, 1) := fo_dd DX6_errors_0 4 rfl
theorem dX6_errors_7 : decode cX6_errors 7 = .ok (.invokestatic 171, 3) := fo_dd DX6_errors_0 5 rfl
theorem dX6_errors_10 : decode cX6_errors 10 = .ok (.aload_n 3, 1) := fo_dd DX6_errors_0 6 rfl
theorem dX6_errors_11 : decode cX6_errors 11 = .ok (.getfield 174, 3) := fo_dd DX6_errors_0 7 rfl
theorem dX6_errors_14 : decode cX6_errors 14 = .ok (.iload_n 2, 1) := fo_dd DX6_errors_0 8 rfl
theorem dX6_errors_15 : decode cX6_errors 15 = .ok (.iaload, 1) := fo_dd DX6_errors_0 9 rfl
theorem dX6_errors_16 : decode cX6_errors 16 = .ok (.ireturn, 1) := fo_dd DX6_errors_0 10 rfl
theorem DX6_errorSum_0 : fo_dl cX6_errorSum [(0, .aload_n 0, 1), (1, .iload_n 1, 1), (2, .invokevirtual 148, 3), (5, .astore_n 3, 1), (6, .iload_n 2, 1), (7, .invokestatic 171, 3), (10, .aload_n 3, 1), (11, .getfield 177, 3), (14, .iload_n 2, 1), (15, .daload, 1), (16, .dreturn, 1)] := by decide +kernel
theorem dX6_errorSum_0 : decode cX6_errorSum 0 = .ok (.aload_n 0, 1) := fo_dd DX6_errorSum_0 0 rfl
theorem dX6_errorSum_1 : decode cX6_errorSum 1 = .ok (.iload_n 1, 1) := fo_dd DX6_errorSum_0 1 rfl
theorem dX6_errorSum_2 : decode cX6_errorSum 2 = .ok (.invokevirtual 148, 3) := fo_dd DX6_errorSum_0 2 rfl
theorem dX6_errorSum_5 : decode cX6_errorSum 5 = .ok (.astore_n 3, 1) := fo_dd DX6_errorSum_0 3 rfl
theorem dX6_errorSum_6 : decode cX6_errorSum 6 = .ok (.iload_n 2, 1) := fo_dd DX6_errorSum_0 4 rfl
theorem dX6_errorSum_7 : decode cX6_errorSum 7 = .ok (.invokestatic 171, 3) := fo_dd DX6_errorSum_0 5 rfl
theorem dX6_errorSum_10 : decode cX6_errorSum 10 = .ok (.aload_n 3, 1) := fo_dd DX6_errorSum_0 6 rfl
theorem dX6_errorSum_11 : decode cX6_errorSum 11 = .ok (.getfield 177, 3) := fo_dd DX6_errorSum_0 7 rfl
theorem dX6_errorSum_14 : decode cX6_errorSum 14 = .ok (.iload_n 2, 1) := fo_dd DX6_errorSum_0 8 rfl
theorem dX6_errorSum_15 : decode cX6_errorSum 15 = .ok (.daload, 1) := fo_dd DX6_errorSum_0 9 rfl
theorem dX6_errorSum_16 : decode cX6_errorSum 16 = .ok (.dreturn, 1) := fo_dd DX6_errorSum_0 10 rfl
theorem DX6_errorSumByBacktest_0 : fo_dl cX6_errorSumByBacktest [(0, .aload_n 0, 1), (1, .iload_n 1, 1), (2, .invokevirtual 148, 3), (5, .astore_n 3, 1), (6, .aload_n 3, 1), (7, .aload_n 0, 1), (8, .iload_n 2, 1), (9, .invokevirtual 72, 3), (12, .invokevirtual 181, 3), (15, .dreturn, 1)] := by decide +kernel
theorem dX6_errorSumByBacktest_0 : decode cX6_errorSumByBacktest 0 = .ok (.aload_n 0, 1) := fo_dd DX6_errorSumByBacktest_0 0 rfl
theorem dX6_errorSumByBacktest_1 : decode cX6_errorSumByBacktest 1 = .ok (.iload_n 1, 1) := fo_dd DX6_errorSumByBacktest_0 1 rfl
theorem dX6_errorSumByBacktest_2 : decode cX6_errorSumByBacktest 2 = .ok (.invokevirtual 148, 3) := fo_dd DX6_errorSumByBacktest_0 2 rfl
theorem dX6_errorSumByBacktest_5 : decode cX6_errorSumByBacktest 5 = .ok (.astore_n 3, 1) := fo_dd DX6_errorSumByBacktest_0 3 rfl
theorem dX6_errorSumByBacktest_6 : decode cX6_errorSumByBacktest 6 = .ok (.aload_n 3, 1) := fo_dd DX6_errorSumByBacktest_0 4 rfl
theorem dX6_errorSumByBacktest_7 : decode cX6_errorSumByBacktest 7 = .ok (.aload_n 0, 1) := fo_dd DX6_errorSumByBacktest_0 5 rfl
theorem dX6_errorSumByBacktest_8 : decode cX6_errorSumByBacktest 8 = .ok (.iload_n 2, 1) := fo_dd DX6_errorSumByBacktest_0 6 rfl
theorem dX6_errorSumByBacktest_9 : decode cX6_errorSumByBacktest 9 = .ok (.invokevirtual 72, 3) := fo_dd DX6_errorSumByBacktest_0 7 rfl
theorem dX6_errorSumByBacktest_12 : decode cX6_errorSumByBacktest 12 = .ok (.invokevirtual 181, 3) := fo_dd DX6_errorSumByBacktest_0 8 rfl
theorem dX6_errorSumByBacktest_15 : decode cX6_errorSumByBacktest 15 = .ok (.dreturn, 1) := fo_dd DX6_errorSumByBacktest_0 9 rfl
theorem DX6_points_0 : fo_dl cX6_points [(0, .aload_n 0, 1), (1, .iload_n 1, 1), (2, .invokevirtual 148, 3), (5, .astore_n 3, 1), (6, .iload_n 2, 1), (7, .invokestatic 171, 3), (10, .aload_n 3, 1), (11, .getfield 185, 3), (14, .iload_n 2, 1), (15, .iaload, 1), (16, .ireturn, 1)] := by decide +kernel
theorem dX6_points_0 : decode cX6_points 0 = .ok (.aload_n 0, 1) := fo_dd DX6_points_0 0 rfl
theorem dX6_points_1 : decode cX6_points 1 = .ok (.iload_n 1, 1) := fo_dd DX6_points_0 1 rfl
theorem dX6_points_2 : decode cX6_points 2 = .ok (.invokevirtual 148, 3) := fo_dd DX6_points_0 2 rfl
theorem dX6_points_5 : decode cX6_points 5 = .ok (.astore_n 3, 1) := fo_dd DX6_points_0 3 rfl
theorem dX6_points_6 : decode cX6_points 6 = .ok (.iload_n 2, 1) := fo_dd DX6_points_0 4 rfl
theorem dX6_points_7 : decode cX6_points 7 = .ok (.invokestatic 171, 3) := fo_dd DX6_points_0 5 rfl
theorem dX6_points_10 : decode cX6_points 10 = .ok (.aload_n 3, 1) := fo_dd DX6_points_0 6 rfl
theorem dX6_points_11 : decode cX6_points 11 = .ok (.getfield 185, 3) := fo_dd DX6_points_0 7 rfl
theorem dX6_points_14 : decode cX6_points 14 = .ok (.iload_n 2, 1) := fo_dd DX6_points_0 8 rfl
theorem dX6_points_15 : decode cX6_points 15 = .ok (.iaload, 1) := fo_dd DX6_points_0 9 rfl
theorem dX6_points_16 : decode cX6_points 16 = .ok (.ireturn, 1) := fo_dd DX6_points_0 10 rfl
theorem DX6_meanError_0 : fo_dl cX6_meanError [(0, .aload_n 0, 1), (1, .iload_n 1, 1), (2, .invokevirtual 148, 3), (5, .astore_n 2, 1), (6, .aload_n 2, 1), (7, .invokevirtual 188, 3), (10, .istore_n 3, 1), (11, .iload_n 3, 1), (12, .ifCond .ne 11, 3), (15, .new 191, 3), (18, .dup, 1), (19, .invokespecial 193, 3), (22, .athrow, 1), (23, .aload_n 2, 1), (24, .invokevirtual 194, 3), (27, .iload_n 3, 1), (28, .i2d, 1), (29, .ddiv, 1), (30, .dreturn, 1)] := by decide +kernel
theorem dX6_meanError_0 : decode cX6_meanError 0 = .ok (.aload_n 0, 1) := fo_dd DX6_meanError_0 0 rfl
theorem dX6_meanError_1 : decode cX6_meanError 1 = .ok (.iload_n 1, 1) := fo_dd DX6_meanError_0 1 rfl
theorem dX6_meanError_2 : decode cX6_meanError 2 = .ok (.invokevirtual 148, 3) := fo_dd DX6_meanError_0 2 rfl
theorem dX6_meanError_5 : decode cX6_meanError 5 = .ok (.astore_n 2, 1) := fo_dd DX6_meanError_0 3 rfl
theorem dX6_meanError_6 : decode cX6_meanError 6 = .ok (.aload_n 2, 1) := fo_dd DX6_meanError_0 4 rfl
theorem dX6_meanError_7 : decode cX6_meanError 7 = .ok (.invokevirtual 188, 3) := fo_dd DX6_meanError_0 5 rfl
theorem dX6_meanError_10 : decode cX6_meanError 10 = .ok (.istore_n 3, 1) := fo_dd DX6_meanError_0 6 rfl
theorem dX6_meanError_11 : decode cX6_meanError 11 = .ok (.iload_n 3, 1) := fo_dd DX6_meanError_0 7 rfl
theorem dX6_meanError_12 : decode cX6_meanError 12 = .ok (.ifCond .ne 11, 3) := fo_dd DX6_meanError_0 8 rfl
theorem dX6_meanError_15 : decode cX6_meanError 15 = .ok (.new 191, 3) := fo_dd DX6_meanError_0 9 rfl
theorem dX6_meanError_18 : decode cX6_meanError 18 = .ok (.dup, 1) := fo_dd DX6_meanError_0 10 rfl
theorem dX6_meanError_19 : decode cX6_meanError 19 = .ok (.invokespecial 193, 3) := fo_dd DX6_meanError_0 11 rfl
theorem dX6_meanError_22 : decode cX6_meanError 22 = .ok (.athrow, 1) := fo_dd DX6_meanError_0 12 rfl
theorem dX6_meanError_23 : decode cX6_meanError 23 = .ok (.aload_n 2, 1) := fo_dd DX6_meanError_0 13 rfl
theorem dX6_meanError_24 : decode cX6_meanError 24 = .ok (.invokevirtual 194, 3) := fo_dd DX6_meanError_0 14 rfl
theorem dX6_meanError_27 : decode cX6_meanError 27 = .ok (.iload_n 3, 1) := fo_dd DX6_meanError_0 15 rfl
theorem dX6_meanError_28 : decode cX6_meanError 28 = .ok (.i2d, 1) := fo_dd DX6_meanError_0 16 rfl
theorem dX6_meanError_29 : decode cX6_meanError 29 = .ok (.ddiv, 1) := fo_dd DX6_meanError_0 17 rfl
theorem dX6_meanError_30 : decode cX6_meanError 30 = .ok (.dreturn, 1) := fo_dd DX6_meanError_0 18 rfl
theorem DX6_prophetByPoints_0 : fo_dl cX6_prophetByPoints [(0, .iload_n 1, 1), (1, .ifCond .ge 7, 3), (4, .iconst (-1), 1), (5, .goto 11, 3), (8, .aload_n 0, 1), (9, .getfield 12, 3), (12, .iload_n 1, 1), (13, .invokevirtual 198, 3), (16, .istore_n 2, 1), (17, .iload_n 2, 1), (18, .iconst (-1), 1), (19, .if_icmp .ne 11, 3), (22, .new 98, 3), (25, .dup, 1), (26, .invokespecial 100, 3), (29, .athrow, 1), (30, .iload_n 2, 1), (31, .ireturn, 1)] := by decide +kernel
theorem dX6_prophetByPoints_0 : decode cX6_prophetByPoints 0 = .ok (.iload_n 1, 1) := fo_dd DX6_prophetByPoints_0 0 rfl
theorem dX6_prophetByPoints_1 : decode cX6_prophetByPoints 1 = .ok (.ifCond .ge 7, 3) := fo_dd DX6_prophetByPoints_0 1 rfl
theorem dX6_prophetByPoints_4 : decode cX6_prophetByPoints 4 = .ok (.iconst (-1), 1) := fo_dd DX6_prophetByPoints_0 2 rfl
theorem dX6_prophetByPoints_5 : decode cX6_prophetByPoints 5 = .ok (.goto 11, 3) := fo_dd DX6_prophetByPoints_0 3 rfl
theorem dX6_prophetByPoints_8 : decode cX6_prophetByPoints 8 = .ok (.aload_n 0, 1) := fo_dd DX6_prophetByPoints_0 4 rfl
theorem dX6_prophetByPoints_9 : decode cX6_prophetByPoints 9 = .ok (.getfield 12, 3) := fo_dd DX6_prophetByPoints_0 5 rfl
theorem dX6_prophetByPoints_12 : decode cX6_prophetByPoints 12 = .ok (.iload_n 1, 1) := fo_dd DX6_prophetByPoints_0 6 rfl
theorem dX6_prophetByPoints_13 : decode cX6_prophetByPoints 13 = .ok (.invokevirtual 198, 3) := fo_dd DX6_prophetByPoints_0 7 rfl
theorem dX6_prophetByPoints_16 : decode cX6_prophetByPoints 16 = .ok (.istore_n 2, 1) := fo_dd DX6_prophetByPoints_0 8 rfl
theorem dX6_prophetByPoints_17 : decode cX6_prophetByPoints 17 = .ok (.iload_n 2, 1) := fo_dd DX6_prophetByPoints_0 9 rfl
theorem dX6_prophetByPoints_18 : decode cX6_prophetByPoints 18 = .ok (.iconst (-1), 1) := fo_dd DX6_prophetByPoints_0 10 rfl
theorem dX6_prophetByPoints_19 : decode cX6_prophetByPoints 19 = .ok (.if_icmp .ne 11, 3) := fo_dd DX6_prophetByPoints_0 11 rfl
theorem dX6_prophetByPoints_22 : decode cX6_prophetByPoints 22 = .ok (.new 98, 3) := fo_dd DX6_prophetByPoints_0 12 rfl
theorem dX6_prophetByPoints_25 : decode cX6_prophetByPoints 25 = .ok (.dup, 1) := fo_dd DX6_prophetByPoints_0 13 rfl
theorem dX6_prophetByPoints_26 : decode cX6_prophetByPoints 26 = .ok (.invokespecial 100, 3) := fo_dd DX6_prophetByPoints_0 14 rfl
theorem dX6_prophetByPoints_29 : decode cX6_prophetByPoints 29 = .ok (.athrow, 1) := fo_dd DX6_prophetByPoints_0 15 rfl
theorem dX6_prophetByPoints_30 : decode cX6_prophetByPoints 30 = .ok (.iload_n 2, 1) := fo_dd DX6_prophetByPoints_0 16 rfl
theorem dX6_prophetByPoints_31 : decode cX6_prophetByPoints 31 = .ok (.ireturn, 1) := fo_dd DX6_prophetByPoints_0 17 rfl
theorem DX6_bestProphet_0 : fo_dl cX6_bestProphet [(0, .aload_n 0, 1), (1, .getfield 12, 3), (4, .invokevirtual 201, 3), (7, .istore_n 1, 1), (8, .iload_n 1, 1), (9, .iconst (-1), 1), (10, .if_icmp .ne 11, 3), (13, .new 98, 3), (16, .dup, 1), (17, .invokespecial 100, 3), (20, .athrow, 1), (21, .iload_n 1, 1), (22, .ireturn, 1)] := by decide +kernel
theorem dX6_bestProphet_0 : decode cX6_bestProphet 0 = .ok (.aload_n 0, 1) := fo_dd DX6_bestProphet_0 0 rfl
theorem dX6_bestProphet_1 : decode cX6_bestProphet 1 = .ok (.getfield 12, 3) := fo_dd DX6_bestProphet_0 1 rfl
theorem dX6_bestProphet_4 : decode cX6_bestProphet 4 = .ok (.invokevirtual 201, 3) := fo_dd DX6_bestProphet_0 2 rfl
theorem dX6_bestProphet_7 : decode cX6_bestProphet 7 = .ok (.istore_n 1, 1) := fo_dd DX6_bestProphet_0 3 rfl
theorem dX6_bestProphet_8 : decode cX6_bestProphet 8 = .ok (.iload_n 1, 1) := fo_dd DX6_bestProphet_0 4 rfl
theorem dX6_bestProphet_9 : decode cX6_bestProphet 9 = .ok (.iconst (-1), 1) := fo_dd DX6_bestProphet_0 5 rfl
theorem dX6_bestProphet_10 : decode cX6_bestProphet 10 = .ok (.if_icmp .ne 11, 3) := fo_dd DX6_bestProphet_0 6 rfl
theorem dX6_bestProphet_13 : decode cX6_bestProphet 13 = .ok (.new 98, 3) := fo_dd DX6_bestProphet_0 7 rfl
theorem dX6_bestProphet_16 : decode cX6_bestProphet 16 = .ok (.dup, 1) := fo_dd DX6_bestProphet_0 8 rfl
theorem dX6_bestProphet_17 : decode cX6_bestProphet 17 = .ok (.invokespecial 100, 3) := fo_dd DX6_bestProphet_0 9 rfl
theorem dX6_bestProphet_20 : decode cX6_bestProphet 20 = .ok (.athrow, 1) := fo_dd DX6_bestProphet_0 10 rfl
theorem dX6_bestProphet_21 : decode cX6_bestProphet 21 = .ok (.iload_n 1, 1) := fo_dd DX6_bestProphet_0 11 rfl
theorem dX6_bestProphet_22 : decode cX6_bestProphet 22 = .ok (.ireturn, 1) := fo_dd DX6_bestProphet_0 12 rfl
theorem DX6_outlierShare_0 : fo_dl cX6_outlierShare [(0, .aload_n 0, 1), (1, .getfield 12, 3), (4, .invokevirtual 204, 3), (7, .istore_n 1, 1), (8, .iload_n 1, 1), (9, .ifCond .ne 11, 3), (12, .new 191, 3), (15, .dup, 1), (16, .invokespecial 193, 3), (19, .athrow, 1), (20, .aload_n 0, 1), (21, .getfield 12, 3), (24, .invokevirtual 207, 3), (27, .i2f, 1), (28, .iload_n 1, 1), (29, .i2f, 1), (30, .fdiv, 1), (31, .freturn, 1)] := by decide +kernel
theorem dX6_outlierShare_0 : decode cX6_outlierShare 0 = .ok (.aload_n 0, 1) := fo_dd DX6_outlierShare_0 0 rfl
theorem dX6_outlierShare_1 : decode cX6_outlierShare 1 = .ok (.getfield 12, 3) := fo_dd DX6_outlierShare_0 1 rfl
theorem dX6_outlierShare_4 : decode cX6_outlierShare 4 = .ok (.invokevirtual 204, 3) := fo_dd DX6_outlierShare_0 2 rfl
theorem dX6_outlierShare_7 : decode cX6_outlierShare 7 = .ok (.istore_n 1, 1) := fo_dd DX6_outlierShare_0 3 rfl
theorem dX6_outlierShare_8 : decode cX6_outlierShare 8 = .ok (.iload_n 1, 1) := fo_dd DX6_outlierShare_0 4 rfl
theorem dX6_outlierShare_9 : decode cX6_outlierShare 9 = .ok (.ifCond .ne 11, 3) := fo_dd DX6_outlierShare_0 5 rfl
theorem dX6_outlierShare_12 : decode cX6_outlierShare 12 = .ok (.new 191, 3) := fo_dd DX6_outlierShare_0 6 rfl
theorem dX6_outlierShare_15 : decode cX6_outlierShare 15 = .ok (.dup, 1) := fo_dd DX6_outlierShare_0 7 rfl
theorem dX6_outlierShare_16 : decode cX6_outlierShare 16 = .ok (.invokespecial 193, 3) := fo_dd DX6_outlierShare_0 8 rfl
theorem dX6_outlierShare_19 : decode cX6_outlierShare 19 = .ok (.athrow, 1) := fo_dd DX6_outlierShare_0 9 rfl
theorem dX6_outlierShare_20 : decode cX6_outlierShare 20 = .ok (.aload_n 0, 1) := fo_dd DX6_outlierShare_0 10 rfl
theorem dX6_outlierShare_21 : decode cX6_outlierShare 21 = .ok (.getfield 12, 3) := fo_dd DX6_outlierShare_0 11 rfl
theorem dX6_outlierShare_24 : decode cX6_outlierShare 24 = .ok (.invokevirtual 207, 3) := fo_dd DX6_outlierShare_0 12 rfl
theorem dX6_outlierShare_27 : decode cX6_outlierShare 27 = .ok (.i2f, 1) := fo_dd DX6_outlierShare_0 13 rfl
theorem dX6_outlierShare_28 : decode cX6_outlierShare 28 = .ok (.iload_n 1, 1) := fo_dd DX6_outlierShare_0 14 rfl
theorem dX6_outlierShare_29 : decode cX6_outlierShare 29 = .ok (.i2f, 1) := fo_dd DX6_outlierShare_0 15 rfl
theorem dX6_outlierShare_30 : decode cX6_outlierShare 30 = .ok (.fdiv, 1) := fo_dd DX6_outlierShare_0 16 rfl
theorem dX6_outlierShare_31 : decode cX6_outlierShare 31 = .ok (.freturn, 1) := fo_dd DX6_outlierShare_0 17 rfl
theorem DX6_isConsistent_0 : fo_dl cX6_isConsistent [(0, .aload_n 0, 1), (1, .getfield 12, 3), (4, .invokevirtual 210, 3), (7, .ireturn, 1)] := by decide +kernel
theorem dX6_isConsistent_0 : decode cX6_isConsistent 0 = .ok (.aload_n 0, 1) := fo_dd DX6_isConsistent_0 0 rfl
theorem dX6_isConsistent_1 : decode cX6_isConsistent 1 = .ok (.getfield 12, 3) := fo_dd DX6_isConsistent_0 1 rfl
theorem dX6_isConsistent_4 : decode cX6_isConsistent 4 = .ok (.invokevirtual 210, 3) := fo_dd DX6_isConsistent_0 2 rfl
theorem dX6_isConsistent_7 : decode cX6_isConsistent 7 = .ok (.ireturn, 1) := fo_dd DX6_isConsistent_0 3 rfl
theorem DX6_writeSeries_0 : fo_dl cX6_writeSeries [(0, .aload_n 0, 1), (1, .iload_n 1, 1), (2, .invokevirtual 72, 3), (5, .astore_n 2, 1), (6, .aload_n 0, 1), (7, .getfield 36, 3), (10, .invokevirtual 213, 3), (13, .aload_n 0, 1), (14, .getfield 36, 3), (17, .iload_n 1, 1), (18, .invokevirtual 216, 3), (21, .aload_n 0, 1), (22, .getfield 36, 3), (25, .bipush 58, 2), (27, .invokevirtual 219, 3), (30, .iconst 0, 1), (31, .istore_n 3, 1), (32, .iload_n 3, 1), (33, .aload_n 2, 1), (34, .getfield 88, 3), (37, .if_icmp .ge 55, 3), (40, .aload_n 0, 1), (41, .getfield 36, 3), (44, .bipush 32, 2), (46, .invokevirtual 219, 3), (49, .aload_n 0, 1), (50, .getfield 36, 3), (53, .aload_n 2, 1), (54, .getfield 101, 3), (57, .iload_n 3, 1), (58, .iaload, 1), (59, .invokevirtual 216, 3), (62, .aload_n 2, 1), (63, .iload_n 3, 1), (64, .aload_n 0, 1), (65, .getfield 12, 3), (68, .getfield 85, 3), (71, .invokevirtual 132, 3), (74, .ifCond .eq 12, 3), (77, .aload_n 0, 1), (78, .getfield 36, 3), (81, .bipush 33, 2), (83, .invokevirtual 219, 3), (86, .iinc 3 1, 3), (89, .goto (-57), 3), (92, .aload_n 0, 1), (93, .getfield 36, 3), (96, .getfield 223, 3), (99, .ireturn, 1)] := by decide +kernel
theorem dX6_writeSeries_0 : decode cX6_writeSeries 0 = .ok (.aload_n 0, 1) := fo_dd DX6_writeSeries_0 0 rfl
theorem dX6_writeSeries_1 : decode cX6_writeSeries 1 = .ok (.iload_n 1, 1) := fo_dd DX6_writeSeries_0 1 rfl
theorem dX6_writeSeries_2 : decode cX6_writeSeries 2 = .ok (.invokevirtual 72, 3) := fo_dd DX6_writeSeries_0 2 rfl
theorem dX6_writeSeries_5 : decode cX6_writeSeries 5 = .ok (.astore_n 2, 1) := fo_dd DX6_writeSeries_0 3 rfl
theorem dX6_writeSeries_6 : decode cX6_writeSeries 6 = .ok (.aload_n 0, 1) := fo_dd DX6_writeSeries_0 4 rfl
theorem dX6_writeSeries_7 : decode cX6_writeSeries 7 = .ok (.getfield 36, 3) := fo_dd DX6_writeSeries_0 5 rfl
theorem dX6_writeSeries_10 : decode cX6_writeSeries 10 = .ok (.invokevirtual 213, 3) := fo_dd DX6_writeSeries_0 6 rfl
theorem dX6_writeSeries_13 : decode cX6_writeSeries 13 = .ok (.aload_n 0, 1) := fo_dd DX6_writeSeries_0 7 rfl
theorem dX6_writeSeries_14 : decode cX6_writeSeries 14 = .ok (.getfield 36, 3) := fo_dd DX6_writeSeries_0 8 rfl
theorem dX6_writeSeries_17 : decode cX6_writeSeries 17 = .ok (.iload_n 1, 1) := fo_dd DX6_writeSeries_0 9 rfl
theorem dX6_writeSeries_18 : decode cX6_writeSeries 18 = .ok (.invokevirtual 216, 3) := fo_dd DX6_writeSeries_0 10 rfl
theorem dX6_writeSeries_21 : decode cX6_writeSeries 21 = .ok (.aload_n 0, 1) := fo_dd DX6_writeSeries_0 11 rfl
theorem dX6_writeSeries_22 : decode cX6_writeSeries 22 = .ok (.getfield 36, 3) := fo_dd DX6_writeSeries_0 12 rfl
theorem dX6_writeSeries_25 : decode cX6_writeSeries 25 = .ok (.bipush 58, 2) := fo_dd DX6_writeSeries_0 13 rfl
theorem dX6_writeSeries_27 : decode cX6_writeSeries 27 = .ok (.invokevirtual 219, 3) := fo_dd DX6_writeSeries_0 14 rfl
theorem dX6_writeSeries_30 : decode cX6_writeSeries 30 = .ok (.iconst 0, 1) := fo_dd DX6_writeSeries_0 15 rfl
theorem dX6_writeSeries_31 : decode cX6_writeSeries 31 = .ok (.istore_n 3, 1) := fo_dd DX6_writeSeries_0 16 rfl
theorem dX6_writeSeries_32 : decode cX6_writeSeries 32 = .ok (.iload_n 3, 1) := fo_dd DX6_writeSeries_0 17 rfl
theorem dX6_writeSeries_33 : decode cX6_writeSeries 33 = .ok (.aload_n 2, 1) := fo_dd DX6_writeSeries_0 18 rfl
theorem dX6_writeSeries_34 : decode cX6_writeSeries 34 = .ok (.getfield 88, 3) := fo_dd DX6_writeSeries_0 19 rfl
theorem dX6_writeSeries_37 : decode cX6_writeSeries 37 = .ok (.if_icmp .ge 55, 3) := fo_dd DX6_writeSeries_0 20 rfl
theorem dX6_writeSeries_40 : decode cX6_writeSeries 40 = .ok (.aload_n 0, 1) := fo_dd DX6_writeSeries_0 21 rfl
theorem dX6_writeSeries_41 : decode cX6_writeSeries 41 = .ok (.getfield 36, 3) := fo_dd DX6_writeSeries_0 22 rfl
theorem dX6_writeSeries_44 : decode cX6_writeSeries 44 = .ok (.bipush 32, 2) := fo_dd DX6_writeSeries_0 23 rfl
theorem dX6_writeSeries_46 : decode cX6_writeSeries 46 = .ok (.invokevirtual 219, 3) := fo_dd DX6_writeSeries_0 24 rfl
theorem dX6_writeSeries_49 : decode cX6_writeSeries 49 = .ok (.aload_n 0, 1) := fo_dd DX6_writeSeries_0 25 rfl
theorem dX6_writeSeries_50 : decode cX6_writeSeries 50 = .ok (.getfield 36, 3) := fo_dd DX6_writeSeries_0 26 rfl
theorem dX6_writeSeries_53 : decode cX6_writeSeries 53 = .ok (.aload_n 2, 1) := fo_dd DX6_writeSeries_0 27 rfl
theorem dX6_writeSeries_54 : decode cX6_writeSeries 54 = .ok (.getfield 101, 3) := fo_dd DX6_writeSeries_0 28 rfl
theorem dX6_writeSeries_57 : decode cX6_writeSeries 57 = .ok (.iload_n 3, 1) := fo_dd DX6_writeSeries_0 29 rfl
theorem dX6_writeSeries_58 : decode cX6_writeSeries 58 = .ok (.iaload, 1) := fo_dd DX6_writeSeries_0 30 rfl
theorem dX6_writeSeries_59 : decode cX6_writeSeries 59 = .ok (.invokevirtual 216, 3) := fo_dd DX6_writeSeries_0 31 rfl
theorem dX6_writeSeries_62 : decode cX6_writeSeries 62 = .ok (.aload_n 2, 1) := fo_dd DX6_writeSeries_0 32 rfl
theorem dX6_writeSeries_63 : decode cX6_writeSeries 63 = .ok (.iload_n 3, 1) := fo_dd DX6_writeSeries_0 33 rfl
theorem dX6_writeSeries_64 : decode cX6_writeSeries 64 = .ok (.aload_n 0, 1) := fo_dd DX6_writeSeries_0 34 rfl
theorem dX6_writeSeries_65 : decode cX6_writeSeries 65 = .ok (.getfield 12, 3) := fo_dd DX6_writeSeries_0 35 rfl
theorem dX6_writeSeries_68 : decode cX6_writeSeries 68 = .ok (.getfield 85, 3) := fo_dd DX6_writeSeries_0 36 rfl
theorem dX6_writeSeries_71 : decode cX6_writeSeries 71 = .ok (.invokevirtual 132, 3) := fo_dd DX6_writeSeries_0 37 rfl
theorem dX6_writeSeries_74 : decode cX6_writeSeries 74 = .ok (.ifCond .eq 12, 3) := fo_dd DX6_writeSeries_0 38 rfl
theorem dX6_writeSeries_77 : decode cX6_writeSeries 77 = .ok (.aload_n 0, 1) := fo_dd DX6_writeSeries_0 39 rfl
theorem dX6_writeSeries_78 : decode cX6_writeSeries 78 = .ok (.getfield 36, 3) := fo_dd DX6_writeSeries_0 40 rfl
theorem dX6_writeSeries_81 : decode cX6_writeSeries 81 = .ok (.bipush 33, 2) := fo_dd DX6_writeSeries_0 41 rfl
theorem dX6_writeSeries_83 : decode cX6_writeSeries 83 = .ok (.invokevirtual 219, 3) := fo_dd DX6_writeSeries_0 42 rfl
theorem dX6_writeSeries_86 : decode cX6_writeSeries 86 = .ok (.iinc 3 1, 3) := fo_dd DX6_writeSeries_0 43 rfl
theorem dX6_writeSeries_89 : decode cX6_writeSeries 89 = .ok (.goto (-57), 3) := fo_dd DX6_writeSeries_0 44 rfl
theorem dX6_writeSeries_92 : decode cX6_writeSeries 92 = .ok (.aload_n 0, 1) := fo_dd DX6_writeSeries_0 45 rfl
theorem dX6_writeSeries_93 : decode cX6_writeSeries 93 = .ok (.getfield 36, 3) := fo_dd DX6_writeSeries_0 46 rfl
theorem dX6_writeSeries_96 : decode cX6_writeSeries 96 = .ok (.getfield 223, 3) := fo_dd DX6_writeSeries_0 47 rfl
theorem dX6_writeSeries_99 : decode cX6_writeSeries 99 = .ok (.ireturn, 1) := fo_dd DX6_writeSeries_0 48 rfl
theorem DX6_writeProphets_0 : fo_dl cX6_writeProphets [(0, .aload_n 0, 1), (1, .getfield 36, 3), (4, .invokevirtual 213, 3), (7, .iconst 0, 1), (8, .istore_n 1, 1), (9, .iload_n 1, 1), (10, .aload_n 0, 1), (11, .getfield 12, 3), (14, .getfield 145, 3), (17, .if_icmp .ge 81, 3), (20, .iload_n 1, 1), (21, .ifCond .le 12, 3), (24, .aload_n 0, 1), (25, .getfield 36, 3), (28, .bipush 32, 2), (30, .invokevirtual 219, 3), (33, .aload_n 0, 1), (34, .getfield 12, 3), (37, .getfield 226, 3), (40, .iload_n 1, 1), (41, .aaload, 1), (42, .astore_n 2, 1), (43, .aload_n 0, 1), (44, .getfield 36, 3), (47, .aload_n 2, 1), (48, .getfield 152, 3), (51, .invokevirtual 219, 3), (54, .aload_n 2, 1), (55, .invokevirtual 230, 3), (58, .ifCond .eq 14, 3), (61, .aload_n 0, 1), (62, .getfield 36, 3), (65, .aload_n 2, 1), (66, .getfield 158, 3), (69, .invokevirtual 216, 3), (72, .aload_n 0, 1), (73, .getfield 36, 3), (76, .bipush 61, 2), (78, .invokevirtual 219, 3), (81, .aload_n 0, 1), (82, .getfield 36, 3), (85, .aload_n 2, 1), (86, .invokevirtual 233, 3), (89, .invokevirtual 216, 3), (92, .iinc 1 1, 3), (95, .goto (-86), 3), (98, .aload_n 0, 1), (99, .getfield 36, 3), (102, .getfield 223, 3), (105, .ireturn, 1)] := by decide +kernel
theorem dX6_writeProphets_0 : decode cX6_writeProphets 0 = .ok (.aload_n 0, 1) := fo_dd DX6_writeProphets_0 0 rfl
theorem dX6_writeProphets_1 : decode cX6_writeProphets 1 = .ok (.getfield 36, 3) := fo_dd DX6_writeProphets_0 1 rfl
theorem dX6_writeProphets_4 : decode cX6_writeProphets 4 = .ok (.invokevirtual 213, 3) := fo_dd DX6_writeProphets_0 2 rfl
theorem dX6_writeProphets_7 : decode cX6_writeProphets 7 = .ok (.iconst 0, 1) := fo_dd DX6_writeProphets_0 3 rfl
theorem dX6_writeProphets_8 : decode cX6_writeProphets 8 = .ok (.istore_n 1, 1) := fo_dd DX6_writeProphets_0 4 rfl
theorem dX6_writeProphets_9 : decode cX6_writeProphets 9 = .ok (.iload_n 1, 1) := fo_dd DX6_writeProphets_0 5 rfl
theorem dX6_writeProphets_10 : decode cX6_writeProphets 10 = .ok (.aload_n 0, 1) := fo_dd DX6_writeProphets_0 6 rfl
theorem dX6_writeProphets_11 : decode cX6_writeProphets 11 = .ok (.getfield 12, 3) := fo_dd DX6_writeProphets_0 7 rfl
theorem dX6_writeProphets_14 : decode cX6_writeProphets 14 = .ok (.getfield 145, 3) := fo_dd DX6_writeProphets_0 8 rfl
theorem dX6_writeProphets_17 : decode cX6_writeProphets 17 = .ok (.if_icmp .ge 81, 3) := fo_dd DX6_writeProphets_0 9 rfl
theorem dX6_writeProphets_20 : decode cX6_writeProphets 20 = .ok (.iload_n 1, 1) := fo_dd DX6_writeProphets_0 10 rfl
theorem dX6_writeProphets_21 : decode cX6_writeProphets 21 = .ok (.ifCond .le 12, 3) := fo_dd DX6_writeProphets_0 11 rfl
theorem dX6_writeProphets_24 : decode cX6_writeProphets 24 = .ok (.aload_n 0, 1) := fo_dd DX6_writeProphets_0 12 rfl
theorem dX6_writeProphets_25 : decode cX6_writeProphets 25 = .ok (.getfield 36, 3) := fo_dd DX6_writeProphets_0 13 rfl
theorem dX6_writeProphets_28 : decode cX6_writeProphets 28 = .ok (.bipush 32, 2) := fo_dd DX6_writeProphets_0 14 rfl
theorem dX6_writeProphets_30 : decode cX6_writeProphets 30 = .ok (.invokevirtual 219, 3) := fo_dd DX6_writeProphets_0 15 rfl
theorem dX6_writeProphets_33 : decode cX6_writeProphets 33 = .ok (.aload_n 0, 1) := fo_dd DX6_writeProphets_0 16 rfl
theorem dX6_writeProphets_34 : decode cX6_writeProphets 34 = .ok (.getfield 12, 3) := fo_dd DX6_writeProphets_0 17 rfl
theorem dX6_writeProphets_37 : decode cX6_writeProphets 37 = .ok (.getfield 226, 3) := fo_dd DX6_writeProphets_0 18 rfl
theorem dX6_writeProphets_40 : decode cX6_writeProphets 40 = .ok (.iload_n 1, 1) := fo_dd DX6_writeProphets_0 19 rfl
theorem dX6_writeProphets_41 : decode cX6_writeProphets 41 = .ok (.aaload, 1) := fo_dd DX6_writeProphets_0 20 rfl
theorem dX6_writeProphets_42 : decode cX6_writeProphets 42 = .ok (.astore_n 2, 1) := fo_dd DX6_writeProphets_0 21 rfl
theorem dX6_writeProphets_43 : decode cX6_writeProphets 43 = .ok (.aload_n 0, 1) := fo_dd DX6_writeProphets_0 22 rfl
theorem dX6_writeProphets_44 : decode cX6_writeProphets 44 = .ok (.getfield 36, 3) := fo_dd DX6_writeProphets_0 23 rfl
theorem dX6_writeProphets_47 : decode cX6_writeProphets 47 = .ok (.aload_n 2, 1) := fo_dd DX6_writeProphets_0 24 rfl
theorem dX6_writeProphets_48 : decode cX6_writeProphets 48 = .ok (.getfield 152, 3) := fo_dd DX6_writeProphets_0 25 rfl
theorem dX6_writeProphets_51 : decode cX6_writeProphets 51 = .ok (.invokevirtual 219, 3) := fo_dd DX6_writeProphets_0 26 rfl
theorem dX6_writeProphets_54 : decode cX6_writeProphets 54 = .ok (.aload_n 2, 1) := fo_dd DX6_writeProphets_0 27 rfl
theorem dX6_writeProphets_55 : decode cX6_writeProphets 55 = .ok (.invokevirtual 230, 3) := fo_dd DX6_writeProphets_0 28 rfl
theorem dX6_writeProphets_58 : decode cX6_writeProphets 58 = .ok (.ifCond .eq 14, 3) := fo_dd DX6_writeProphets_0 29 rfl
theorem dX6_writeProphets_61 : decode cX6_writeProphets 61 = .ok (.aload_n 0, 1) := fo_dd DX6_writeProphets_0 30 rfl
theorem dX6_writeProphets_62 : decode cX6_writeProphets 62 = .ok (.getfield 36, 3) := fo_dd DX6_writeProphets_0 31 rfl
theorem dX6_writeProphets_65 : decode cX6_writeProphets 65 = .ok (.aload_n 2, 1) := fo_dd DX6_writeProphets_0 32 rfl
theorem dX6_writeProphets_66 : decode cX6_writeProphets 66 = .ok (.getfield 158, 3) := fo_dd DX6_writeProphets_0 33 rfl
theorem dX6_writeProphets_69 : decode cX6_writeProphets 69 = .ok (.invokevirtual 216, 3) := fo_dd DX6_writeProphets_0 34 rfl
theorem dX6_writeProphets_72 : decode cX6_writeProphets 72 = .ok (.aload_n 0, 1) := fo_dd DX6_writeProphets_0 35 rfl
theorem dX6_writeProphets_73 : decode cX6_writeProphets 73 = .ok (.getfield 36, 3) := fo_dd DX6_writeProphets_0 36 rfl
theorem dX6_writeProphets_76 : decode cX6_writeProphets 76 = .ok (.bipush 61, 2) := fo_dd DX6_writeProphets_0 37 rfl
theorem dX6_writeProphets_78 : decode cX6_writeProphets 78 = .ok (.invokevirtual 219, 3) := fo_dd DX6_writeProphets_0 38 rfl
theorem dX6_writeProphets_81 : decode cX6_writeProphets 81 = .ok (.aload_n 0, 1) := fo_dd DX6_writeProphets_0 39 rfl
theorem dX6_writeProphets_82 : decode cX6_writeProphets 82 = .ok (.getfield 36, 3) := fo_dd DX6_writeProphets_0 40 rfl
theorem dX6_writeProphets_85 : decode cX6_writeProphets 85 = .ok (.aload_n 2, 1) := fo_dd DX6_writeProphets_0 41 rfl
theorem dX6_writeProphets_86 : decode cX6_writeProphets 86 = .ok (.invokevirtual 233, 3) := fo_dd DX6_writeProphets_0 42 rfl
theorem dX6_writeProphets_89 : decode cX6_writeProphets 89 = .ok (.invokevirtual 216, 3) := fo_dd DX6_writeProphets_0 43 rfl
theorem dX6_writeProphets_92 : decode cX6_writeProphets 92 = .ok (.iinc 1 1, 3) := fo_dd DX6_writeProphets_0 44 rfl
theorem dX6_writeProphets_95 : decode cX6_writeProphets 95 = .ok (.goto (-86), 3) := fo_dd DX6_writeProphets_0 45 rfl
theorem dX6_writeProphets_98 : decode cX6_writeProphets 98 = .ok (.aload_n 0, 1) := fo_dd DX6_writeProphets_0 46 rfl
theorem dX6_writeProphets_99 : decode cX6_writeProphets 99 = .ok (.getfield 36, 3) := fo_dd DX6_writeProphets_0 47 rfl
theorem dX6_writeProphets_102 : decode cX6_writeProphets 102 = .ok (.getfield 223, 3) := fo_dd DX6_writeProphets_0 48 rfl
theorem dX6_writeProphets_105 : decode cX6_writeProphets 105 = .ok (.ireturn, 1) := fo_dd DX6_writeProphets_0 49 rfl
theorem DX6_charAt_0 : fo_dl cX6_charAt [(0, .iload_n 1, 1), (1, .ifCond .lt 14, 3), (4, .iload_n 1, 1), (5, .aload_n 0, 1), (6, .getfield 36, 3), (9, .getfield 223, 3), (12, .if_icmp .lt 11, 3), (15, .new 236, 3), (18, .dup, 1), (19, .invokespecial 238, 3), (22, .athrow, 1), (23, .aload_n 0, 1), (24, .getfield 36, 3), (27, .getfield 239, 3), (30, .iload_n 1, 1), (31, .caload, 1), (32, .ireturn, 1)] := by decide +kernel
theorem dX6_charAt_0 : decode cX6_charAt 0 = .ok (.iload_n 1, 1) := fo_dd DX6_charAt_0 0 rfl
theorem dX6_charAt_1 : decode cX6_charAt 1 = .ok (.ifCond .lt 14, 3) := fo_dd DX6_charAt_0 1 rfl
theorem dX6_charAt_4 : decode cX6_charAt 4 = .ok (.iload_n 1, 1) := fo_dd DX6_charAt_0 2 rfl
theorem dX6_charAt_5 : decode cX6_charAt 5 = .ok (.aload_n 0, 1) := fo_dd DX6_charAt_0 3 rfl
theorem dX6_charAt_6 : decode cX6_charAt 6 = .ok (.getfield 36, 3) := fo_dd DX6_charAt_0 4 rfl
theorem dX6_charAt_9 : decode cX6_charAt 9 = .ok (.getfield 223, 3) := fo_dd DX6_charAt_0 5 rfl
theorem dX6_charAt_12 : decode cX6_charAt 12 = .ok (.if_icmp .lt 11, 3) := fo_dd DX6_charAt_0 6 rfl
theorem dX6_charAt_15 : decode cX6_charAt 15 = .ok (.new 236, 3) := fo_dd DX6_charAt_0 7 rfl
theorem dX6_charAt_18 : decode cX6_charAt 18 = .ok (.dup, 1) := fo_dd DX6_charAt_0 8 rfl
theorem dX6_charAt_19 : decode cX6_charAt 19 = .ok (.invokespecial 238, 3) := fo_dd DX6_charAt_0 9 rfl
theorem dX6_charAt_22 : decode cX6_charAt 22 = .ok (.athrow, 1) := fo_dd DX6_charAt_0 10 rfl
theorem dX6_charAt_23 : decode cX6_charAt 23 = .ok (.aload_n 0, 1) := fo_dd DX6_charAt_0 11 rfl
theorem dX6_charAt_24 : decode cX6_charAt 24 = .ok (.getfield 36, 3) := fo_dd DX6_charAt_0 12 rfl
theorem dX6_charAt_27 : decode cX6_charAt 27 = .ok (.getfield 239, 3) := fo_dd DX6_charAt_0 13 rfl
theorem dX6_charAt_30 : decode cX6_charAt 30 = .ok (.iload_n 1, 1) := fo_dd DX6_charAt_0 14 rfl
theorem dX6_charAt_31 : decode cX6_charAt 31 = .ok (.caload, 1) := fo_dd DX6_charAt_0 15 rfl
theorem dX6_charAt_32 : decode cX6_charAt 32 = .ok (.ireturn, 1) := fo_dd DX6_charAt_0 16 rfl
theorem DX6_type_0 : fo_dl cX6_type [(0, .aload_n 0, 1), (1, .getfield 29, 3), (4, .getfield 243, 3), (7, .bipush 60, 2), (9, .if_icmp .lt 11, 3), (12, .new 62, 3), (15, .dup, 1), (16, .invokespecial 64, 3), (19, .athrow, 1), (20, .aload_n 0, 1), (21, .getfield 29, 3), (24, .iload_n 1, 1), (25, .invokevirtual 244, 3), (28, .ireturn, 1)] := by decide +kernel
theorem dX6_type_0 : decode cX6_type 0 = .ok (.aload_n 0, 1) := fo_dd DX6_type_0 0 rfl
theorem dX6_type_1 : decode cX6_type 1 = .ok (.getfield 29, 3) := fo_dd DX6_type_0 1 rfl
theorem dX6_type_4 : decode cX6_type 4 = .ok (.getfield 243, 3) := fo_dd DX6_type_0 2 rfl
theorem dX6_type_7 : decode cX6_type 7 = .ok (.bipush 60, 2) := fo_dd DX6_type_0 3 rfl
theorem dX6_type_9 : decode cX6_type 9 = .ok (.if_icmp .lt 11, 3) := fo_dd DX6_type_0 4 rfl
theorem dX6_type_12 : decode cX6_type 12 = .ok (.new 62, 3) := fo_dd DX6_type_0 5 rfl
theorem dX6_type_15 : decode cX6_type 15 = .ok (.dup, 1) := fo_dd DX6_type_0 6 rfl
theorem dX6_type_16 : decode cX6_type 16 = .ok (.invokespecial 64, 3) := fo_dd DX6_type_0 7 rfl
theorem dX6_type_19 : decode cX6_type 19 = .ok (.athrow, 1) := fo_dd DX6_type_0 8 rfl
theorem dX6_type_20 : decode cX6_type 20 = .ok (.aload_n 0, 1) := fo_dd DX6_type_0 9 rfl
theorem dX6_type_21 : decode cX6_type 21 = .ok (.getfield 29, 3) := fo_dd DX6_type_0 10 rfl
theorem dX6_type_24 : decode cX6_type 24 = .ok (.iload_n 1, 1) := fo_dd DX6_type_0 11 rfl
theorem dX6_type_25 : decode cX6_type 25 = .ok (.invokevirtual 244, 3) := fo_dd DX6_type_0 12 rfl
theorem dX6_type_28 : decode cX6_type 28 = .ok (.ireturn, 1) := fo_dd DX6_type_0 13 rfl
theorem DX6_run_0 : fo_dl cX6_run [(0, .aload_n 0, 1), (1, .getfield 29, 3), (4, .invokevirtual 247, 3), (7, .istore_n 1, 1), (8, .aload_n 0, 1), (9, .getfield 29, 3), (12, .iconst 0, 1), (13, .putfield 243, 3), (16, .iload_n 1, 1), (17, .ifCond .ne 22, 3), (20, .aload_n 0, 1), (21, .aload_n 0, 1), (22, .getfield 29, 3), (25, .getfield 250, 3), (28, .putfield 40, 3), (31, .new 55, 3), (34, .dup, 1), (35, .invokespecial 57, 3), (38, .athrow, 1), (39, .aload_n 0, 1), (40, .getfield 22, 3), (43, .aload_n 0, 1), (44, .getfield 12, 3), (47, .invokevirtual 253, 3), (50, .aload_n 0, 1), (51, .invokevirtual 257, 3), (54, .istore_n 2, 1), (55, .iload_n 2, 1), (56, .iconst (-1), 1), (57, .if_icmp .eq 27, 3), (60, .aload_n 0, 1), (61, .getfield 22, 3), (64, .aload_n 0, 1), (65, .getfield 12, 3), (68, .invokevirtual 260, 3), (71, .aload_n 0, 1), (72, .iload_n 2, 1), (73, .putfield 44, 3), (76, .new 263, 3), (79, .dup, 1), (80, .invokespecial 265, 3), (83, .athrow, 1), (84, .aload_n 0, 1), (85, .getfield 22, 3), (88, .invokevirtual 266, 3), (91, .aload_n 0, 1), (92, .getfield 29, 3), (95, .getfield 269, 3), (98, .ireturn, 1)] := by decide +kernel
theorem dX6_run_0 : decode cX6_run 0 = .ok (.aload_n 0, 1) := fo_dd DX6_run_0 0 rfl
theorem dX6_run_1 : decode cX6_run 1 = .ok (.getfield 29, 3) := fo_dd DX6_run_0 1 rfl
theorem dX6_run_4 : decode cX6_run 4 = .ok (.invokevirtual 247, 3) := fo_dd DX6_run_0 2 rfl
theorem dX6_run_7 : decode cX6_run 7 = .ok (.istore_n 1, 1) := fo_dd DX6_run_0 3 rfl
theorem dX6_run_8 : decode cX6_run 8 = .ok (.aload_n 0, 1) := fo_dd DX6_run_0 4 rfl
theorem dX6_run_9 : decode cX6_run 9 = .ok (.getfield 29, 3) := fo_dd DX6_run_0 5 rfl
theorem dX6_run_12 : decode cX6_run 12 = .ok (.iconst 0, 1) := fo_dd DX6_run_0 6 rfl
theorem dX6_run_13 : decode cX6_run 13 = .ok (.putfield 243, 3) := fo_dd DX6_run_0 7 rfl
theorem dX6_run_16 : decode cX6_run 16 = .ok (.iload_n 1, 1) := fo_dd DX6_run_0 8 rfl
theorem dX6_run_17 : decode cX6_run 17 = .ok (.ifCond .ne 22, 3) := fo_dd DX6_run_0 9 rfl
theorem dX6_run_20 : decode cX6_run 20 = .ok (.aload_n 0, 1) := fo_dd DX6_run_0 10 rfl
theorem dX6_run_21 : decode cX6_run 21 = .ok (.aload_n 0, 1) := fo_dd DX6_run_0 11 rfl
theorem dX6_run_22 : decode cX6_run 22 = .ok (.getfield 29, 3) := fo_dd DX6_run_0 12 rfl
theorem dX6_run_25 : decode cX6_run 25 = .ok (.getfield 250, 3) := fo_dd DX6_run_0 13 rfl
theorem dX6_run_28 : decode cX6_run 28 = .ok (.putfield 40, 3) := fo_dd DX6_run_0 14 rfl
theorem dX6_run_31 : decode cX6_run 31 = .ok (.new 55, 3) := fo_dd DX6_run_0 15 rfl
theorem dX6_run_34 : decode cX6_run 34 = .ok (.dup, 1) := fo_dd DX6_run_0 16 rfl
theorem dX6_run_35 : decode cX6_run 35 = .ok (.invokespecial 57, 3) := fo_dd DX6_run_0 17 rfl
theorem dX6_run_38 : decode cX6_run 38 = .ok (.athrow, 1) := fo_dd DX6_run_0 18 rfl
theorem dX6_run_39 : decode cX6_run 39 = .ok (.aload_n 0, 1) := fo_dd DX6_run_0 19 rfl
theorem dX6_run_40 : decode cX6_run 40 = .ok (.getfield 22, 3) := fo_dd DX6_run_0 20 rfl
theorem dX6_run_43 : decode cX6_run 43 = .ok (.aload_n 0, 1) := fo_dd DX6_run_0 21 rfl
theorem dX6_run_44 : decode cX6_run 44 = .ok (.getfield 12, 3) := fo_dd DX6_run_0 22 rfl
theorem dX6_run_47 : decode cX6_run 47 = .ok (.invokevirtual 253, 3) := fo_dd DX6_run_0 23 rfl
theorem dX6_run_50 : decode cX6_run 50 = .ok (.aload_n 0, 1) := fo_dd DX6_run_0 24 rfl
theorem dX6_run_51 : decode cX6_run 51 = .ok (.invokevirtual 257, 3) := fo_dd DX6_run_0 25 rfl
theorem dX6_run_54 : decode cX6_run 54 = .ok (.istore_n 2, 1) := fo_dd DX6_run_0 26 rfl
theorem dX6_run_55 : decode cX6_run 55 = .ok (.iload_n 2, 1) := fo_dd DX6_run_0 27 rfl
theorem dX6_run_56 : decode cX6_run 56 = .ok (.iconst (-1), 1) := fo_dd DX6_run_0 28 rfl
theorem dX6_run_57 : decode cX6_run 57 = .ok (.if_icmp .eq 27, 3) := fo_dd DX6_run_0 29 rfl
theorem dX6_run_60 : decode cX6_run 60 = .ok (.aload_n 0, 1) := fo_dd DX6_run_0 30 rfl
theorem dX6_run_61 : decode cX6_run 61 = .ok (.getfield 22, 3) := fo_dd DX6_run_0 31 rfl
theorem dX6_run_64 : decode cX6_run 64 = .ok (.aload_n 0, 1) := fo_dd DX6_run_0 32 rfl
theorem dX6_run_65 : decode cX6_run 65 = .ok (.getfield 12, 3) := fo_dd DX6_run_0 33 rfl
theorem dX6_run_68 : decode cX6_run 68 = .ok (.invokevirtual 260, 3) := fo_dd DX6_run_0 34 rfl
theorem dX6_run_71 : decode cX6_run 71 = .ok (.aload_n 0, 1) := fo_dd DX6_run_0 35 rfl
theorem dX6_run_72 : decode cX6_run 72 = .ok (.iload_n 2, 1) := fo_dd DX6_run_0 36 rfl
theorem dX6_run_73 : decode cX6_run 73 = .ok (.putfield 44, 3) := fo_dd DX6_run_0 37 rfl
theorem dX6_run_76 : decode cX6_run 76 = .ok (.new 263, 3) := fo_dd DX6_run_0 38 rfl
theorem dX6_run_79 : decode cX6_run 79 = .ok (.dup, 1) := fo_dd DX6_run_0 39 rfl
theorem dX6_run_80 : decode cX6_run 80 = .ok (.invokespecial 265, 3) := fo_dd DX6_run_0 40 rfl
theorem dX6_run_83 : decode cX6_run 83 = .ok (.athrow, 1) := fo_dd DX6_run_0 41 rfl
theorem dX6_run_84 : decode cX6_run 84 = .ok (.aload_n 0, 1) := fo_dd DX6_run_0 42 rfl
theorem dX6_run_85 : decode cX6_run 85 = .ok (.getfield 22, 3) := fo_dd DX6_run_0 43 rfl
theorem dX6_run_88 : decode cX6_run 88 = .ok (.invokevirtual 266, 3) := fo_dd DX6_run_0 44 rfl
theorem dX6_run_91 : decode cX6_run 91 = .ok (.aload_n 0, 1) := fo_dd DX6_run_0 45 rfl
theorem dX6_run_92 : decode cX6_run 92 = .ok (.getfield 29, 3) := fo_dd DX6_run_0 46 rfl
theorem dX6_run_95 : decode cX6_run 95 = .ok (.getfield 269, 3) := fo_dd DX6_run_0 47 rfl
theorem dX6_run_98 : decode cX6_run 98 = .ok (.ireturn, 1) := fo_dd DX6_run_0 48 rfl
theorem DX6_errorPosition_0 : fo_dl cX6_errorPosition [(0, .aload_n 0, 1), (1, .getfield 40, 3), (4, .iconst (-1), 1), (5, .if_icmp .ne 11, 3), (8, .new 98, 3), (11, .dup, 1), (12, .invokespecial 100, 3), (15, .athrow, 1), (16, .aload_n 0, 1), (17, .getfield 40, 3), (20, .ireturn, 1)] := by decide +kernel
theorem dX6_errorPosition_0 : decode cX6_errorPosition 0 = .ok (.aload_n 0, 1) := fo_dd DX6_errorPosition_0 0 rfl
theorem dX6_errorPosition_1 : decode cX6_errorPosition 1 = .ok (.getfield 40, 3) := fo_dd DX6_errorPosition_0 1 rfl
theorem dX6_errorPosition_4 : decode cX6_errorPosition 4 = .ok (.iconst (-1), 1) := fo_dd DX6_errorPosition_0 2 rfl
theorem dX6_errorPosition_5 : decode cX6_errorPosition 5 = .ok (.if_icmp .ne 11, 3) := fo_dd DX6_errorPosition_0 3 rfl
theorem dX6_errorPosition_8 : decode cX6_errorPosition 8 = .ok (.new 98, 3) := fo_dd DX6_errorPosition_0 4 rfl
theorem dX6_errorPosition_11 : decode cX6_errorPosition 11 = .ok (.dup, 1) := fo_dd DX6_errorPosition_0 5 rfl
theorem dX6_errorPosition_12 : decode cX6_errorPosition 12 = .ok (.invokespecial 100, 3) := fo_dd DX6_errorPosition_0 6 rfl
theorem dX6_errorPosition_15 : decode cX6_errorPosition 15 = .ok (.athrow, 1) := fo_dd DX6_errorPosition_0 7 rfl
theorem dX6_errorPosition_16 : decode cX6_errorPosition 16 = .ok (.aload_n 0, 1) := fo_dd DX6_errorPosition_0 8 rfl
theorem dX6_errorPosition_17 : decode cX6_errorPosition 17 = .ok (.getfield 40, 3) := fo_dd DX6_errorPosition_0 9 rfl
theorem dX6_errorPosition_20 : decode cX6_errorPosition 20 = .ok (.ireturn, 1) := fo_dd DX6_errorPosition_0 10 rfl
theorem DX6_failedCommand_0 : fo_dl cX6_failedCommand [(0, .aload_n 0, 1), (1, .getfield 44, 3), (4, .iconst (-1), 1), (5, .if_icmp .ne 11, 3), (8, .new 98, 3), (11, .dup, 1), (12, .invokespecial 100, 3), (15, .athrow, 1), (16, .aload_n 0, 1), (17, .getfield 44, 3), (20, .ireturn, 1)] := by decide +kernel
theorem dX6_failedCommand_0 : decode cX6_failedCommand 0 = .ok (.aload_n 0, 1) := fo_dd DX6_failedCommand_0 0 rfl
theorem dX6_failedCommand_1 : decode cX6_failedCommand 1 = .ok (.getfield 44, 3) := fo_dd DX6_failedCommand_0 1 rfl
theorem dX6_failedCommand_4 : decode cX6_failedCommand 4 = .ok (.iconst (-1), 1) := fo_dd DX6_failedCommand_0 2 rfl
theorem dX6_failedCommand_5 : decode cX6_failedCommand 5 = .ok (.if_icmp .ne 11, 3) := fo_dd DX6_failedCommand_0 3 rfl
theorem dX6_failedCommand_8 : decode cX6_failedCommand 8 = .ok (.new 98, 3) := fo_dd DX6_failedCommand_0 4 rfl
theorem dX6_failedCommand_11 : decode cX6_failedCommand 11 = .ok (.dup, 1) := fo_dd DX6_failedCommand_0 5 rfl
theorem dX6_failedCommand_12 : decode cX6_failedCommand 12 = .ok (.invokespecial 100, 3) := fo_dd DX6_failedCommand_0 6 rfl
theorem dX6_failedCommand_15 : decode cX6_failedCommand 15 = .ok (.athrow, 1) := fo_dd DX6_failedCommand_0 7 rfl
theorem dX6_failedCommand_16 : decode cX6_failedCommand 16 = .ok (.aload_n 0, 1) := fo_dd DX6_failedCommand_0 8 rfl
theorem dX6_failedCommand_17 : decode cX6_failedCommand 17 = .ok (.getfield 44, 3) := fo_dd DX6_failedCommand_0 9 rfl
theorem dX6_failedCommand_20 : decode cX6_failedCommand 20 = .ok (.ireturn, 1) := fo_dd DX6_failedCommand_0 10 rfl
theorem DX6_undo_0 : fo_dl cX6_undo [(0, .aload_n 0, 1), (1, .getfield 22, 3), (4, .getfield 272, 3), (7, .ifCond .ne 11, 3), (10, .new 62, 3), (13, .dup, 1), (14, .invokespecial 64, 3), (17, .athrow, 1), (18, .aload_n 0, 1), (19, .getfield 22, 3), (22, .invokevirtual 273, 3), (25, .aload_n 0, 1), (26, .getfield 22, 3), (29, .aload_n 0, 1), (30, .getfield 12, 3), (33, .invokevirtual 260, 3), (36, .aload_n 0, 1), (37, .getfield 22, 3), (40, .getfield 272, 3), (43, .ireturn, 1)] := by decide +kernel
theorem dX6_undo_0 : decode cX6_undo 0 = .ok (.aload_n 0, 1) := fo_dd DX6_undo_0 0 rfl
theorem dX6_undo_1 : decode cX6_undo 1 = .ok (.getfield 22, 3) := fo_dd DX6_undo_0 1 rfl
theorem dX6_undo_4 : decode cX6_undo 4 = .ok (.getfield 272, 3) := fo_dd DX6_undo_0 2 rfl
theorem dX6_undo_7 : decode cX6_undo 7 = .ok (.ifCond .ne 11, 3) := fo_dd DX6_undo_0 3 rfl
theorem dX6_undo_10 : decode cX6_undo 10 = .ok (.new 62, 3) := fo_dd DX6_undo_0 4 rfl
theorem dX6_undo_13 : decode cX6_undo 13 = .ok (.dup, 1) := fo_dd DX6_undo_0 5 rfl
theorem dX6_undo_14 : decode cX6_undo 14 = .ok (.invokespecial 64, 3) := fo_dd DX6_undo_0 6 rfl
theorem dX6_undo_17 : decode cX6_undo 17 = .ok (.athrow, 1) := fo_dd DX6_undo_0 7 rfl
theorem dX6_undo_18 : decode cX6_undo 18 = .ok (.aload_n 0, 1) := fo_dd DX6_undo_0 8 rfl
theorem dX6_undo_19 : decode cX6_undo 19 = .ok (.getfield 22, 3) := fo_dd DX6_undo_0 9 rfl
theorem dX6_undo_22 : decode cX6_undo 22 = .ok (.invokevirtual 273, 3) := fo_dd DX6_undo_0 10 rfl
theorem dX6_undo_25 : decode cX6_undo 25 = .ok (.aload_n 0, 1) := fo_dd DX6_undo_0 11 rfl
theorem dX6_undo_26 : decode cX6_undo 26 = .ok (.getfield 22, 3) := fo_dd DX6_undo_0 12 rfl
theorem dX6_undo_29 : decode cX6_undo 29 = .ok (.aload_n 0, 1) := fo_dd DX6_undo_0 13 rfl
theorem dX6_undo_30 : decode cX6_undo 30 = .ok (.getfield 12, 3) := fo_dd DX6_undo_0 14 rfl
theorem dX6_undo_33 : decode cX6_undo 33 = .ok (.invokevirtual 260, 3) := fo_dd DX6_undo_0 15 rfl
theorem dX6_undo_36 : decode cX6_undo 36 = .ok (.aload_n 0, 1) := fo_dd DX6_undo_0 16 rfl
theorem dX6_undo_37 : decode cX6_undo 37 = .ok (.getfield 22, 3) := fo_dd DX6_undo_0 17 rfl
theorem dX6_undo_40 : decode cX6_undo 40 = .ok (.getfield 272, 3) := fo_dd DX6_undo_0 18 rfl
theorem dX6_undo_43 : decode cX6_undo 43 = .ok (.ireturn, 1) := fo_dd DX6_undo_0 19 rfl
theorem DX6_save_0 : fo_dl cX6_save [(0, .aload_n 0, 1), (1, .getfield 16, 3), (4, .aload_n 0, 1), (5, .getfield 12, 3), (8, .invokevirtual 276, 3), (11, .aload_n 0, 1), (12, .iconst 1, 1), (13, .putfield 279, 3), (16, .aload_n 0, 1), (17, .getfield 12, 3), (20, .getfield 145, 3), (23, .ireturn, 1)] := by decide +kernel
theorem dX6_save_0 : decode cX6_save 0 = .ok (.aload_n 0, 1) := fo_dd DX6_save_0 0 rfl
theorem dX6_save_1 : decode cX6_save 1 = .ok (.getfield 16, 3) := fo_dd DX6_save_0 1 rfl
theorem dX6_save_4 : decode cX6_save 4 = .ok (.aload_n 0, 1) := fo_dd DX6_save_0 2 rfl
theorem dX6_save_5 : decode cX6_save 5 = .ok (.getfield 12, 3) := fo_dd DX6_save_0 3 rfl
theorem dX6_save_8 : decode cX6_save 8 = .ok (.invokevirtual 276, 3) := fo_dd DX6_save_0 4 rfl
theorem dX6_save_11 : decode cX6_save 11 = .ok (.aload_n 0, 1) := fo_dd DX6_save_0 5 rfl
theorem dX6_save_12 : decode cX6_save 12 = .ok (.iconst 1, 1) := fo_dd DX6_save_0 6 rfl
theorem dX6_save_13 : decode cX6_save 13 = .ok (.putfield 279, 3) := fo_dd DX6_save_0 7 rfl
theorem dX6_save_16 : decode cX6_save 16 = .ok (.aload_n 0, 1) := fo_dd DX6_save_0 8 rfl
theorem dX6_save_17 : decode cX6_save 17 = .ok (.getfield 12, 3) := fo_dd DX6_save_0 9 rfl
theorem dX6_save_20 : decode cX6_save 20 = .ok (.getfield 145, 3) := fo_dd DX6_save_0 10 rfl
theorem dX6_save_23 : decode cX6_save 23 = .ok (.ireturn, 1) := fo_dd DX6_save_0 11 rfl
theorem DX6_restore_0 : fo_dl cX6_restore [(0, .aload_n 0, 1), (1, .getfield 279, 3), (4, .ifCond .ne 11, 3), (7, .new 62, 3), (10, .dup, 1), (11, .invokespecial 64, 3), (14, .athrow, 1), (15, .aload_n 0, 1), (16, .getfield 12, 3), (19, .aload_n 0, 1), (20, .getfield 16, 3), (23, .invokevirtual 276, 3), (26, .aload_n 0, 1), (27, .getfield 22, 3), (30, .iconst 0, 1), (31, .putfield 272, 3), (34, .aload_n 0, 1), (35, .getfield 12, 3), (38, .getfield 145, 3), (41, .ireturn, 1)] := by decide +kernel
theorem dX6_restore_0 : decode cX6_restore 0 = .ok (.aload_n 0, 1) := fo_dd DX6_restore_0 0 rfl
theorem dX6_restore_1 : decode cX6_restore 1 = .ok (.getfield 279, 3) := fo_dd DX6_restore_0 1 rfl
theorem dX6_restore_4 : decode cX6_restore 4 = .ok (.ifCond .ne 11, 3) := fo_dd DX6_restore_0 2 rfl
theorem dX6_restore_7 : decode cX6_restore 7 = .ok (.new 62, 3) := fo_dd DX6_restore_0 3 rfl
theorem dX6_restore_10 : decode cX6_restore 10 = .ok (.dup, 1) := fo_dd DX6_restore_0 4 rfl
theorem dX6_restore_11 : decode cX6_restore 11 = .ok (.invokespecial 64, 3) := fo_dd DX6_restore_0 5 rfl
theorem dX6_restore_14 : decode cX6_restore 14 = .ok (.athrow, 1) := fo_dd DX6_restore_0 6 rfl
theorem dX6_restore_15 : decode cX6_restore 15 = .ok (.aload_n 0, 1) := fo_dd DX6_restore_0 7 rfl
theorem dX6_restore_16 : decode cX6_restore 16 = .ok (.getfield 12, 3) := fo_dd DX6_restore_0 8 rfl
theorem dX6_restore_19 : decode cX6_restore 19 = .ok (.aload_n 0, 1) := fo_dd DX6_restore_0 9 rfl
theorem dX6_restore_20 : decode cX6_restore 20 = .ok (.getfield 16, 3) := fo_dd DX6_restore_0 10 rfl
theorem dX6_restore_23 : decode cX6_restore 23 = .ok (.invokevirtual 276, 3) := fo_dd DX6_restore_0 11 rfl
theorem dX6_restore_26 : decode cX6_restore 26 = .ok (.aload_n 0, 1) := fo_dd DX6_restore_0 12 rfl
theorem dX6_restore_27 : decode cX6_restore 27 = .ok (.getfield 22, 3) := fo_dd DX6_restore_0 13 rfl
theorem dX6_restore_30 : decode cX6_restore 30 = .ok (.iconst 0, 1) := fo_dd DX6_restore_0 14 rfl
theorem dX6_restore_31 : decode cX6_restore 31 = .ok (.putfield 272, 3) := fo_dd DX6_restore_0 15 rfl
theorem dX6_restore_34 : decode cX6_restore 34 = .ok (.aload_n 0, 1) := fo_dd DX6_restore_0 16 rfl
theorem dX6_restore_35 : decode cX6_restore 35 = .ok (.getfield 12, 3) := fo_dd DX6_restore_0 17 rfl
theorem dX6_restore_38 : decode cX6_restore 38 = .ok (.getfield 145, 3) := fo_dd DX6_restore_0 18 rfl
theorem dX6_restore_41 : decode cX6_restore 41 = .ok (.ireturn, 1) := fo_dd DX6_restore_0 19 rfl
theorem DX6_isSeries_0 : fo_dl cX6_isSeries [(0, .iload_n 0, 1), (1, .ifCond .lt 12, 3), (4, .iload_n 0, 1), (5, .iconst 4, 1), (6, .if_icmp .ge 7, 3), (9, .iconst 1, 1), (10, .goto 4, 3), (13, .iconst 0, 1), (14, .ireturn, 1)] := by decide +kernel
theorem dX6_isSeries_0 : decode cX6_isSeries 0 = .ok (.iload_n 0, 1) := fo_dd DX6_isSeries_0 0 rfl
theorem dX6_isSeries_1 : decode cX6_isSeries 1 = .ok (.ifCond .lt 12, 3) := fo_dd DX6_isSeries_0 1 rfl
theorem dX6_isSeries_4 : decode cX6_isSeries 4 = .ok (.iload_n 0, 1) := fo_dd DX6_isSeries_0 2 rfl
theorem dX6_isSeries_5 : decode cX6_isSeries 5 = .ok (.iconst 4, 1) := fo_dd DX6_isSeries_0 3 rfl
theorem dX6_isSeries_6 : decode cX6_isSeries 6 = .ok (.if_icmp .ge 7, 3) := fo_dd DX6_isSeries_0 4 rfl
theorem dX6_isSeries_9 : decode cX6_isSeries 9 = .ok (.iconst 1, 1) := fo_dd DX6_isSeries_0 5 rfl
theorem dX6_isSeries_10 : decode cX6_isSeries 10 = .ok (.goto 4, 3) := fo_dd DX6_isSeries_0 6 rfl
theorem dX6_isSeries_13 : decode cX6_isSeries 13 = .ok (.iconst 0, 1) := fo_dd DX6_isSeries_0 7 rfl
theorem dX6_isSeries_14 : decode cX6_isSeries 14 = .ok (.ireturn, 1) := fo_dd DX6_isSeries_0 8 rfl
theorem DX6_isKind_0 : fo_dl cX6_isKind [(0, .iload_n 0, 1), (1, .bipush 108, 2), (3, .if_icmp .eq 27, 3), (6, .iload_n 0, 1), (7, .bipush 109, 2), (9, .if_icmp .eq 21, 3), (12, .iload_n 0, 1), (13, .bipush 100, 2), (15, .if_icmp .eq 15, 3), (18, .iload_n 0, 1), (19, .bipush 116, 2), (21, .if_icmp .eq 9, 3), (24, .iload_n 0, 1), (25, .bipush 115, 2), (27, .if_icmp .ne 7, 3), (30, .iconst 1, 1), (31, .goto 4, 3), (34, .iconst 0, 1), (35, .ireturn, 1)] := by decide +kernel
theorem dX6_isKind_0 : decode cX6_isKind 0 = .ok (.iload_n 0, 1) := fo_dd DX6_isKind_0 0 rfl
theorem dX6_isKind_1 : decode cX6_isKind 1 = .ok (.bipush 108, 2) := fo_dd DX6_isKind_0 1 rfl
theorem dX6_isKind_3 : decode cX6_isKind 3 = .ok (.if_icmp .eq 27, 3) := fo_dd DX6_isKind_0 2 rfl
theorem dX6_isKind_6 : decode cX6_isKind 6 = .ok (.iload_n 0, 1) := fo_dd DX6_isKind_0 3 rfl
theorem dX6_isKind_7 : decode cX6_isKind 7 = .ok (.bipush 109, 2) := fo_dd DX6_isKind_0 4 rfl
theorem dX6_isKind_9 : decode cX6_isKind 9 = .ok (.if_icmp .eq 21, 3) := fo_dd DX6_isKind_0 5 rfl
theorem dX6_isKind_12 : decode cX6_isKind 12 = .ok (.iload_n 0, 1) := fo_dd DX6_isKind_0 6 rfl
theorem dX6_isKind_13 : decode cX6_isKind 13 = .ok (.bipush 100, 2) := fo_dd DX6_isKind_0 7 rfl
theorem dX6_isKind_15 : decode cX6_isKind 15 = .ok (.if_icmp .eq 15, 3) := fo_dd DX6_isKind_0 8 rfl
theorem dX6_isKind_18 : decode cX6_isKind 18 = .ok (.iload_n 0, 1) := fo_dd DX6_isKind_0 9 rfl
theorem dX6_isKind_19 : decode cX6_isKind 19 = .ok (.bipush 116, 2) := fo_dd DX6_isKind_0 10 rfl
theorem dX6_isKind_21 : decode cX6_isKind 21 = .ok (.if_icmp .eq 9, 3) := fo_dd DX6_isKind_0 11 rfl
theorem dX6_isKind_24 : decode cX6_isKind 24 = .ok (.iload_n 0, 1) := fo_dd DX6_isKind_0 12 rfl
theorem dX6_isKind_25 : decode cX6_isKind 25 = .ok (.bipush 115, 2) := fo_dd DX6_isKind_0 13 rfl
theorem dX6_isKind_27 : decode cX6_isKind 27 = .ok (.if_icmp .ne 7, 3) := fo_dd DX6_isKind_0 14 rfl
theorem dX6_isKind_30 : decode cX6_isKind 30 = .ok (.iconst 1, 1) := fo_dd DX6_isKind_0 15 rfl
theorem dX6_isKind_31 : decode cX6_isKind 31 = .ok (.goto 4, 3) := fo_dd DX6_isKind_0 16 rfl
theorem dX6_isKind_34 : decode cX6_isKind 34 = .ok (.iconst 0, 1) := fo_dd DX6_isKind_0 17 rfl
theorem dX6_isKind_35 : decode cX6_isKind 35 = .ok (.ireturn, 1) := fo_dd DX6_isKind_0 18 rfl
theorem DX6_isOneToNine_0 : fo_dl cX6_isOneToNine [(0, .iload_n 0, 1), (1, .iconst 1, 1), (2, .if_icmp .lt 13, 3), (5, .iload_n 0, 1), (6, .bipush 9, 2), (8, .if_icmp .gt 7, 3), (11, .iconst 1, 1), (12, .goto 4, 3), (15, .iconst 0, 1), (16, .ireturn, 1)] := by decide +kernel
theorem dX6_isOneToNine_0 : decode cX6_isOneToNine 0 = .ok (.iload_n 0, 1) := fo_dd DX6_isOneToNine_0 0 rfl
theorem dX6_isOneToNine_1 : decode cX6_isOneToNine 1 = .ok (.iconst 1, 1) := fo_dd DX6_isOneToNine_0 1 rfl
theorem dX6_isOneToNine_2 : decode cX6_isOneToNine 2 = .ok (.if_icmp .lt 13, 3) := fo_dd DX6_isOneToNine_0 2 rfl
theorem dX6_isOneToNine_5 : decode cX6_isOneToNine 5 = .ok (.iload_n 0, 1) := fo_dd DX6_isOneToNine_0 3 rfl
theorem dX6_isOneToNine_6 : decode cX6_isOneToNine 6 = .ok (.bipush 9, 2) := fo_dd DX6_isOneToNine_0 4 rfl
theorem dX6_isOneToNine_8 : decode cX6_isOneToNine 8 = .ok (.if_icmp .gt 7, 3) := fo_dd DX6_isOneToNine_0 5 rfl
theorem dX6_isOneToNine_11 : decode cX6_isOneToNine 11 = .ok (.iconst 1, 1) := fo_dd DX6_isOneToNine_0 6 rfl
theorem dX6_isOneToNine_12 : decode cX6_isOneToNine 12 = .ok (.goto 4, 3) := fo_dd DX6_isOneToNine_0 7 rfl
theorem dX6_isOneToNine_15 : decode cX6_isOneToNine 15 = .ok (.iconst 0, 1) := fo_dd DX6_isOneToNine_0 8 rfl
theorem dX6_isOneToNine_16 : decode cX6_isOneToNine 16 = .ok (.ireturn, 1) := fo_dd DX6_isOneToNine_0 9 rfl
theorem DX6_requireSeries_0 : fo_dl cX6_requireSeries [(0, .iload_n 0, 1), (1, .invokestatic 283, 3), (4, .ifCond .ne 11, 3), (7, .new 236, 3), (10, .dup, 1), (11, .invokespecial 238, 3), (14, .athrow, 1), (15, .return_, 1)] := by decide +kernel
theorem dX6_requireSeries_0 : decode cX6_requireSeries 0 = .ok (.iload_n 0, 1) := fo_dd DX6_requireSeries_0 0 rfl
theorem dX6_requireSeries_1 : decode cX6_requireSeries 1 = .ok (.invokestatic 283, 3) := fo_dd DX6_requireSeries_0 1 rfl
theorem dX6_requireSeries_4 : decode cX6_requireSeries 4 = .ok (.ifCond .ne 11, 3) := fo_dd DX6_requireSeries_0 2 rfl
theorem dX6_requireSeries_7 : decode cX6_requireSeries 7 = .ok (.new 236, 3) := fo_dd DX6_requireSeries_0 3 rfl
theorem dX6_requireSeries_10 : decode cX6_requireSeries 10 = .ok (.dup, 1) := fo_dd DX6_requireSeries_0 4 rfl
theorem dX6_requireSeries_11 : decode cX6_requireSeries 11 = .ok (.invokespecial 238, 3) := fo_dd DX6_requireSeries_0 5 rfl
theorem dX6_requireSeries_14 : decode cX6_requireSeries 14 = .ok (.athrow, 1) := fo_dd DX6_requireSeries_0 6 rfl
theorem dX6_requireSeries_15 : decode cX6_requireSeries 15 = .ok (.return_, 1) := fo_dd DX6_requireSeries_0 7 rfl
theorem DX6_seriesAt_0 : fo_dl cX6_seriesAt [(0, .iload_n 1, 1), (1, .invokestatic 171, 3), (4, .aload_n 0, 1), (5, .getfield 12, 3), (8, .getfield 286, 3), (11, .iload_n 1, 1), (12, .aaload, 1), (13, .areturn, 1)] := by decide +kernel
theorem dX6_seriesAt_0 : decode cX6_seriesAt 0 = .ok (.iload_n 1, 1) := fo_dd DX6_seriesAt_0 0 rfl
theorem dX6_seriesAt_1 : decode cX6_seriesAt 1 = .ok (.invokestatic 171, 3) := fo_dd DX6_seriesAt_0 1 rfl
theorem dX6_seriesAt_4 : decode cX6_seriesAt 4 = .ok (.aload_n 0, 1) := fo_dd DX6_seriesAt_0 2 rfl
theorem dX6_seriesAt_5 : decode cX6_seriesAt 5 = .ok (.getfield 12, 3) := fo_dd DX6_seriesAt_0 3 rfl
theorem dX6_seriesAt_8 : decode cX6_seriesAt 8 = .ok (.getfield 286, 3) := fo_dd DX6_seriesAt_0 4 rfl
theorem dX6_seriesAt_11 : decode cX6_seriesAt 11 = .ok (.iload_n 1, 1) := fo_dd DX6_seriesAt_0 5 rfl
theorem dX6_seriesAt_12 : decode cX6_seriesAt 12 = .ok (.aaload, 1) := fo_dd DX6_seriesAt_0 6 rfl
theorem dX6_seriesAt_13 : decode cX6_seriesAt 13 = .ok (.areturn, 1) := fo_dd DX6_seriesAt_0 7 rfl
theorem DX6_seriesWithLast_0 : fo_dl cX6_seriesWithLast [(0, .aload_n 0, 1), (1, .iload_n 1, 1), (2, .invokevirtual 72, 3), (5, .astore_n 3, 1), (6, .iload_n 2, 1), (7, .iconst 1, 1), (8, .if_icmp .lt 9, 3), (11, .iload_n 2, 1), (12, .bipush 30, 2), (14, .if_icmp .le 11, 3), (17, .new 55, 3), (20, .dup, 1), (21, .invokespecial 57, 3), (24, .athrow, 1), (25, .aload_n 3, 1), (26, .getfield 88, 3), (29, .iload_n 2, 1), (30, .if_icmp .ge 11, 3), (33, .new 98, 3), (36, .dup, 1), (37, .invokespecial 100, 3), (40, .athrow, 1), (41, .aload_n 3, 1), (42, .areturn, 1)] := by decide +kernel
theorem dX6_seriesWithLast_0 : decode cX6_seriesWithLast 0 = .ok (.aload_n 0, 1) := fo_dd DX6_seriesWithLast_0 0 rfl
theorem dX6_seriesWithLast_1 : decode cX6_seriesWithLast 1 = .ok (.iload_n 1, 1) := fo_dd DX6_seriesWithLast_0 1 rfl
theorem dX6_seriesWithLast_2 : decode cX6_seriesWithLast 2 = .ok (.invokevirtual 72, 3) := fo_dd DX6_seriesWithLast_0 2 rfl
theorem dX6_seriesWithLast_5 : decode cX6_seriesWithLast 5 = .ok (.astore_n 3, 1) := fo_dd DX6_seriesWithLast_0 3 rfl
theorem dX6_seriesWithLast_6 : decode cX6_seriesWithLast 6 = .ok (.iload_n 2, 1) := fo_dd DX6_seriesWithLast_0 4 rfl
theorem dX6_seriesWithLast_7 : decode cX6_seriesWithLast 7 = .ok (.iconst 1, 1) := fo_dd DX6_seriesWithLast_0 5 rfl
theorem dX6_seriesWithLast_8 : decode cX6_seriesWithLast 8 = .ok (.if_icmp .lt 9, 3) := fo_dd DX6_seriesWithLast_0 6 rfl
theorem dX6_seriesWithLast_11 : decode cX6_seriesWithLast 11 = .ok (.iload_n 2, 1) := fo_dd DX6_seriesWithLast_0 7 rfl
theorem dX6_seriesWithLast_12 : decode cX6_seriesWithLast 12 = .ok (.bipush 30, 2) := fo_dd DX6_seriesWithLast_0 8 rfl
theorem dX6_seriesWithLast_14 : decode cX6_seriesWithLast 14 = .ok (.if_icmp .le 11, 3) := fo_dd DX6_seriesWithLast_0 9 rfl
theorem dX6_seriesWithLast_17 : decode cX6_seriesWithLast 17 = .ok (.new 55, 3) := fo_dd DX6_seriesWithLast_0 10 rfl
theorem dX6_seriesWithLast_20 : decode cX6_seriesWithLast 20 = .ok (.dup, 1) := fo_dd DX6_seriesWithLast_0 11 rfl
theorem dX6_seriesWithLast_21 : decode cX6_seriesWithLast 21 = .ok (.invokespecial 57, 3) := fo_dd DX6_seriesWithLast_0 12 rfl
theorem dX6_seriesWithLast_24 : decode cX6_seriesWithLast 24 = .ok (.athrow, 1) := fo_dd DX6_seriesWithLast_0 13 rfl
theorem dX6_seriesWithLast_25 : decode cX6_seriesWithLast 25 = .ok (.aload_n 3, 1) := fo_dd DX6_seriesWithLast_0 14 rfl
theorem dX6_seriesWithLast_26 : decode cX6_seriesWithLast 26 = .ok (.getfield 88, 3) := fo_dd DX6_seriesWithLast_0 15 rfl
theorem dX6_seriesWithLast_29 : decode cX6_seriesWithLast 29 = .ok (.iload_n 2, 1) := fo_dd DX6_seriesWithLast_0 16 rfl
theorem dX6_seriesWithLast_30 : decode cX6_seriesWithLast 30 = .ok (.if_icmp .ge 11, 3) := fo_dd DX6_seriesWithLast_0 17 rfl
theorem dX6_seriesWithLast_33 : decode cX6_seriesWithLast 33 = .ok (.new 98, 3) := fo_dd DX6_seriesWithLast_0 18 rfl
theorem dX6_seriesWithLast_36 : decode cX6_seriesWithLast 36 = .ok (.dup, 1) := fo_dd DX6_seriesWithLast_0 19 rfl
theorem dX6_seriesWithLast_37 : decode cX6_seriesWithLast 37 = .ok (.invokespecial 100, 3) := fo_dd DX6_seriesWithLast_0 20 rfl
theorem dX6_seriesWithLast_40 : decode cX6_seriesWithLast 40 = .ok (.athrow, 1) := fo_dd DX6_seriesWithLast_0 21 rfl
theorem dX6_seriesWithLast_41 : decode cX6_seriesWithLast 41 = .ok (.aload_n 3, 1) := fo_dd DX6_seriesWithLast_0 22 rfl
theorem dX6_seriesWithLast_42 : decode cX6_seriesWithLast 42 = .ok (.areturn, 1) := fo_dd DX6_seriesWithLast_0 23 rfl
theorem DX6_prophetAt_0 : fo_dl cX6_prophetAt [(0, .iload_n 1, 1), (1, .ifCond .lt 14, 3), (4, .iload_n 1, 1), (5, .aload_n 0, 1), (6, .getfield 12, 3), (9, .getfield 145, 3), (12, .if_icmp .lt 11, 3), (15, .new 236, 3), (18, .dup, 1), (19, .invokespecial 238, 3), (22, .athrow, 1), (23, .aload_n 0, 1), (24, .getfield 12, 3), (27, .getfield 226, 3), (30, .iload_n 1, 1), (31, .aaload, 1), (32, .areturn, 1)] := by decide +kernel
theorem dX6_prophetAt_0 : decode cX6_prophetAt 0 = .ok (.iload_n 1, 1) := fo_dd DX6_prophetAt_0 0 rfl
theorem dX6_prophetAt_1 : decode cX6_prophetAt 1 = .ok (.ifCond .lt 14, 3) := fo_dd DX6_prophetAt_0 1 rfl
theorem dX6_prophetAt_4 : decode cX6_prophetAt 4 = .ok (.iload_n 1, 1) := fo_dd DX6_prophetAt_0 2 rfl
theorem dX6_prophetAt_5 : decode cX6_prophetAt 5 = .ok (.aload_n 0, 1) := fo_dd DX6_prophetAt_0 3 rfl
theorem dX6_prophetAt_6 : decode cX6_prophetAt 6 = .ok (.getfield 12, 3) := fo_dd DX6_prophetAt_0 4 rfl
theorem dX6_prophetAt_9 : decode cX6_prophetAt 9 = .ok (.getfield 145, 3) := fo_dd DX6_prophetAt_0 5 rfl
theorem dX6_prophetAt_12 : decode cX6_prophetAt 12 = .ok (.if_icmp .lt 11, 3) := fo_dd DX6_prophetAt_0 6 rfl
theorem dX6_prophetAt_15 : decode cX6_prophetAt 15 = .ok (.new 236, 3) := fo_dd DX6_prophetAt_0 7 rfl
theorem dX6_prophetAt_18 : decode cX6_prophetAt 18 = .ok (.dup, 1) := fo_dd DX6_prophetAt_0 8 rfl
theorem dX6_prophetAt_19 : decode cX6_prophetAt 19 = .ok (.invokespecial 238, 3) := fo_dd DX6_prophetAt_0 9 rfl
theorem dX6_prophetAt_22 : decode cX6_prophetAt 22 = .ok (.athrow, 1) := fo_dd DX6_prophetAt_0 10 rfl
theorem dX6_prophetAt_23 : decode cX6_prophetAt 23 = .ok (.aload_n 0, 1) := fo_dd DX6_prophetAt_0 11 rfl
theorem dX6_prophetAt_24 : decode cX6_prophetAt 24 = .ok (.getfield 12, 3) := fo_dd DX6_prophetAt_0 12 rfl
theorem dX6_prophetAt_27 : decode cX6_prophetAt 27 = .ok (.getfield 226, 3) := fo_dd DX6_prophetAt_0 13 rfl
theorem dX6_prophetAt_30 : decode cX6_prophetAt 30 = .ok (.iload_n 1, 1) := fo_dd DX6_prophetAt_0 14 rfl
theorem dX6_prophetAt_31 : decode cX6_prophetAt 31 = .ok (.aaload, 1) := fo_dd DX6_prophetAt_0 15 rfl
theorem dX6_prophetAt_32 : decode cX6_prophetAt 32 = .ok (.areturn, 1) := fo_dd DX6_prophetAt_0 16 rfl
theorem DX6_nextForecast_0 : fo_dl cX6_nextForecast [(0, .aload_n 0, 1), (1, .iload_n 1, 1), (2, .invokevirtual 148, 3), (5, .astore_n 3, 1), (6, .aload_n 0, 1), (7, .iload_n 2, 1), (8, .invokevirtual 72, 3), (11, .astore 4, 2), (13, .aload_n 3, 1), (14, .aload 4, 2), (16, .getfield 88, 3), (19, .invokevirtual 161, 3), (22, .ifCond .ne 11, 3), (25, .new 98, 3), (28, .dup, 1), (29, .invokespecial 100, 3), (32, .athrow, 1), (33, .aload_n 3, 1), (34, .aload 4, 2), (36, .aload 4, 2), (38, .getfield 88, 3), (41, .invokevirtual 290, 3), (44, .dreturn, 1)] := by decide +kernel
theorem dX6_nextForecast_0 : decode cX6_nextForecast 0 = .ok (.aload_n 0, 1) := fo_dd DX6_nextForecast_0 0 rfl
theorem dX6_nextForecast_1 : decode cX6_nextForecast 1 = .ok (.iload_n 1, 1) := fo_dd DX6_nextForecast_0 1 rfl
theorem dX6_nextForecast_2 : decode cX6_nextForecast 2 = .ok (.invokevirtual 148, 3) := fo_dd DX6_nextForecast_0 2 rfl
theorem dX6_nextForecast_5 : decode cX6_nextForecast 5 = .ok (.astore_n 3, 1) := fo_dd DX6_nextForecast_0 3 rfl
theorem dX6_nextForecast_6 : decode cX6_nextForecast 6 = .ok (.aload_n 0, 1) := fo_dd DX6_nextForecast_0 4 rfl
theorem dX6_nextForecast_7 : decode cX6_nextForecast 7 = .ok (.iload_n 2, 1) := fo_dd DX6_nextForecast_0 5 rfl
theorem dX6_nextForecast_8 : decode cX6_nextForecast 8 = .ok (.invokevirtual 72, 3) := fo_dd DX6_nextForecast_0 6 rfl
theorem dX6_nextForecast_11 : decode cX6_nextForecast 11 = .ok (.astore 4, 2) := fo_dd DX6_nextForecast_0 7 rfl
theorem dX6_nextForecast_13 : decode cX6_nextForecast 13 = .ok (.aload_n 3, 1) := fo_dd DX6_nextForecast_0 8 rfl
theorem dX6_nextForecast_14 : decode cX6_nextForecast 14 = .ok (.aload 4, 2) := fo_dd DX6_nextForecast_0 9 rfl
theorem dX6_nextForecast_16 : decode cX6_nextForecast 16 = .ok (.getfield 88, 3) := fo_dd DX6_nextForecast_0 10 rfl
theorem dX6_nextForecast_19 : decode cX6_nextForecast 19 = .ok (.invokevirtual 161, 3) := fo_dd DX6_nextForecast_0 11 rfl
theorem dX6_nextForecast_22 : decode cX6_nextForecast 22 = .ok (.ifCond .ne 11, 3) := fo_dd DX6_nextForecast_0 12 rfl
theorem dX6_nextForecast_25 : decode cX6_nextForecast 25 = .ok (.new 98, 3) := fo_dd DX6_nextForecast_0 13 rfl
theorem dX6_nextForecast_28 : decode cX6_nextForecast 28 = .ok (.dup, 1) := fo_dd DX6_nextForecast_0 14 rfl
theorem dX6_nextForecast_29 : decode cX6_nextForecast 29 = .ok (.invokespecial 100, 3) := fo_dd DX6_nextForecast_0 15 rfl
theorem dX6_nextForecast_32 : decode cX6_nextForecast 32 = .ok (.athrow, 1) := fo_dd DX6_nextForecast_0 16 rfl
theorem dX6_nextForecast_33 : decode cX6_nextForecast 33 = .ok (.aload_n 3, 1) := fo_dd DX6_nextForecast_0 17 rfl
theorem dX6_nextForecast_34 : decode cX6_nextForecast 34 = .ok (.aload 4, 2) := fo_dd DX6_nextForecast_0 18 rfl
theorem dX6_nextForecast_36 : decode cX6_nextForecast 36 = .ok (.aload 4, 2) := fo_dd DX6_nextForecast_0 19 rfl
theorem dX6_nextForecast_38 : decode cX6_nextForecast 38 = .ok (.getfield 88, 3) := fo_dd DX6_nextForecast_0 20 rfl
theorem dX6_nextForecast_41 : decode cX6_nextForecast 41 = .ok (.invokevirtual 290, 3) := fo_dd DX6_nextForecast_0 21 rfl
theorem dX6_nextForecast_44 : decode cX6_nextForecast 44 = .ok (.dreturn, 1) := fo_dd DX6_nextForecast_0 22 rfl
theorem DX6_noteChange_0 : fo_dl cX6_noteChange [(0, .aload_n 0, 1), (1, .getfield 22, 3), (4, .aload_n 0, 1), (5, .getfield 12, 3), (8, .invokevirtual 253, 3), (11, .aload_n 0, 1), (12, .getfield 22, 3), (15, .invokevirtual 266, 3), (18, .return_, 1)] := by decide +kernel
theorem dX6_noteChange_0 : decode cX6_noteChange 0 = .ok (.aload_n 0, 1) := fo_dd DX6_noteChange_0 0 rfl
theorem dX6_noteChange_1 : decode cX6_noteChange 1 = .ok (.getfield 22, 3) := fo_dd DX6_noteChange_0 1 rfl
theorem dX6_noteChange_4 : decode cX6_noteChange 4 = .ok (.aload_n 0, 1) := fo_dd DX6_noteChange_0 2 rfl
theorem dX6_noteChange_5 : decode cX6_noteChange 5 = .ok (.getfield 12, 3) := fo_dd DX6_noteChange_0 3 rfl
theorem dX6_noteChange_8 : decode cX6_noteChange 8 = .ok (.invokevirtual 253, 3) := fo_dd DX6_noteChange_0 4 rfl
theorem dX6_noteChange_11 : decode cX6_noteChange 11 = .ok (.aload_n 0, 1) := fo_dd DX6_noteChange_0 5 rfl
theorem dX6_noteChange_12 : decode cX6_noteChange 12 = .ok (.getfield 22, 3) := fo_dd DX6_noteChange_0 6 rfl
theorem dX6_noteChange_15 : decode cX6_noteChange 15 = .ok (.invokevirtual 266, 3) := fo_dd DX6_noteChange_0 7 rfl
theorem dX6_noteChange_18 : decode cX6_noteChange 18 = .ok (.return_, 1) := fo_dd DX6_noteChange_0 8 rfl
theorem DX6_firstFailedCommand_0 : fo_dl cX6_firstFailedCommand [(0, .iconst 0, 1), (1, .istore_n 1, 1), (2, .iload_n 1, 1), (3, .aload_n 0, 1), (4, .getfield 29, 3), (7, .getfield 294, 3), (10, .if_icmp .ge 53, 3), (13, .aload_n 0, 1), (14, .aload_n 0, 1), (15, .getfield 29, 3), (18, .getfield 297, 3), (21, .iload_n 1, 1), (22, .caload, 1), (23, .aload_n 0, 1), (24, .getfield 29, 3), (27, .getfield 300, 3), (30, .iload_n 1, 1), (31, .iaload, 1), (32, .aload_n 0, 1), (33, .getfield 29, 3), (36, .getfield 303, 3), (39, .iload_n 1, 1), (40, .iaload, 1), (41, .invokevirtual 306, 3), (44, .ifCond .ne 13, 3), (47, .aload_n 0, 1), (48, .getfield 29, 3), (51, .getfield 310, 3), (54, .iload_n 1, 1), (55, .iaload, 1), (56, .ireturn, 1), (57, .iinc 1 1, 3), (60, .goto (-58), 3), (63, .iconst (-1), 1), (64, .ireturn, 1)] := by decide +kernel
theorem dX6_firstFailedCommand_0 : decode cX6_firstFailedCommand 0 = .ok (.iconst 0, 1) := fo_dd DX6_firstFailedCommand_0 0 rfl
theorem dX6_firstFailedCommand_1 : decode cX6_firstFailedCommand 1 = .ok (.istore_n 1, 1) := fo_dd DX6_firstFailedCommand_0 1 rfl
theorem dX6_firstFailedCommand_2 : decode cX6_firstFailedCommand 2 = .ok (.iload_n 1, 1) := fo_dd DX6_firstFailedCommand_0 2 rfl
theorem dX6_firstFailedCommand_3 : decode cX6_firstFailedCommand 3 = .ok (.aload_n 0, 1) := fo_dd DX6_firstFailedCommand_0 3 rfl
theorem dX6_firstFailedCommand_4 : decode cX6_firstFailedCommand 4 = .ok (.getfield 29, 3) := fo_dd DX6_firstFailedCommand_0 4 rfl
theorem dX6_firstFailedCommand_7 : decode cX6_firstFailedCommand 7 = .ok (.getfield 294, 3) := fo_dd DX6_firstFailedCommand_0 5 rfl
theorem dX6_firstFailedCommand_10 : decode cX6_firstFailedCommand 10 = .ok (.if_icmp .ge 53, 3) := fo_dd DX6_firstFailedCommand_0 6 rfl
theorem dX6_firstFailedCommand_13 : decode cX6_firstFailedCommand 13 = .ok (.aload_n 0, 1) := fo_dd DX6_firstFailedCommand_0 7 rfl
theorem dX6_firstFailedCommand_14 : decode cX6_firstFailedCommand 14 = .ok (.aload_n 0, 1) := fo_dd DX6_firstFailedCommand_0 8 rfl
theorem dX6_firstFailedCommand_15 : decode cX6_firstFailedCommand 15 = .ok (.getfield 29, 3) := fo_dd DX6_firstFailedCommand_0 9 rfl
theorem dX6_firstFailedCommand_18 : decode cX6_firstFailedCommand 18 = .ok (.getfield 297, 3) := fo_dd DX6_firstFailedCommand_0 10 rfl
theorem dX6_firstFailedCommand_21 : decode cX6_firstFailedCommand 21 = .ok (.iload_n 1, 1) := fo_dd DX6_firstFailedCommand_0 11 rfl
theorem dX6_firstFailedCommand_22 : decode cX6_firstFailedCommand 22 = .ok (.caload, 1) := fo_dd DX6_firstFailedCommand_0 12 rfl
theorem dX6_firstFailedCommand_23 : decode cX6_firstFailedCommand 23 = .ok (.aload_n 0, 1) := fo_dd DX6_firstFailedCommand_0 13 rfl
theorem dX6_firstFailedCommand_24 : decode cX6_firstFailedCommand 24 = .ok (.getfield 29, 3) := fo_dd DX6_firstFailedCommand_0 14 rfl
theorem dX6_firstFailedCommand_27 : decode cX6_firstFailedCommand 27 = .ok (.getfield 300, 3) := fo_dd DX6_firstFailedCommand_0 15 rfl
theorem dX6_firstFailedCommand_30 : decode cX6_firstFailedCommand 30 = .ok (.iload_n 1, 1) := fo_dd DX6_firstFailedCommand_0 16 rfl
theorem dX6_firstFailedCommand_31 : decode cX6_firstFailedCommand 31 = .ok (.iaload, 1) := fo_dd DX6_firstFailedCommand_0 17 rfl
theorem dX6_firstFailedCommand_32 : decode cX6_firstFailedCommand 32 = .ok (.aload_n 0, 1) := fo_dd DX6_firstFailedCommand_0 18 rfl
theorem dX6_firstFailedCommand_33 : decode cX6_firstFailedCommand 33 = .ok (.getfield 29, 3) := fo_dd DX6_firstFailedCommand_0 19 rfl
theorem dX6_firstFailedCommand_36 : decode cX6_firstFailedCommand 36 = .ok (.getfield 303, 3) := fo_dd DX6_firstFailedCommand_0 20 rfl
theorem dX6_firstFailedCommand_39 : decode cX6_firstFailedCommand 39 = .ok (.iload_n 1, 1) := fo_dd DX6_firstFailedCommand_0 21 rfl
theorem dX6_firstFailedCommand_40 : decode cX6_firstFailedCommand 40 = .ok (.iaload, 1) := fo_dd DX6_firstFailedCommand_0 22 rfl
theorem dX6_firstFailedCommand_41 : decode cX6_firstFailedCommand 41 = .ok (.invokevirtual 306, 3) := fo_dd DX6_firstFailedCommand_0 23 rfl
theorem dX6_firstFailedCommand_44 : decode cX6_firstFailedCommand 44 = .ok (.ifCond .ne 13, 3) := fo_dd DX6_firstFailedCommand_0 24 rfl
theorem dX6_firstFailedCommand_47 : decode cX6_firstFailedCommand 47 = .ok (.aload_n 0, 1) := fo_dd DX6_firstFailedCommand_0 25 rfl
theorem dX6_firstFailedCommand_48 : decode cX6_firstFailedCommand 48 = .ok (.getfield 29, 3) := fo_dd DX6_firstFailedCommand_0 26 rfl
theorem dX6_firstFailedCommand_51 : decode cX6_firstFailedCommand 51 = .ok (.getfield 310, 3) := fo_dd DX6_firstFailedCommand_0 27 rfl
theorem dX6_firstFailedCommand_54 : decode cX6_firstFailedCommand 54 = .ok (.iload_n 1, 1) := fo_dd DX6_firstFailedCommand_0 28 rfl
theorem dX6_firstFailedCommand_55 : decode cX6_firstFailedCommand 55 = .ok (.iaload, 1) := fo_dd DX6_firstFailedCommand_0 29 rfl
theorem dX6_firstFailedCommand_56 : decode cX6_firstFailedCommand 56 = .ok (.ireturn, 1) := fo_dd DX6_firstFailedCommand_0 30 rfl
theorem dX6_firstFailedCommand_57 : decode cX6_firstFailedCommand 57 = .ok (.iinc 1 1, 3) := fo_dd DX6_firstFailedCommand_0 31 rfl
theorem dX6_firstFailedCommand_60 : decode cX6_firstFailedCommand 60 = .ok (.goto (-58), 3) := fo_dd DX6_firstFailedCommand_0 32 rfl
theorem dX6_firstFailedCommand_63 : decode cX6_firstFailedCommand 63 = .ok (.iconst (-1), 1) := fo_dd DX6_firstFailedCommand_0 33 rfl
theorem dX6_firstFailedCommand_64 : decode cX6_firstFailedCommand 64 = .ok (.ireturn, 1) := fo_dd DX6_firstFailedCommand_0 34 rfl
theorem DX6_takeStep_0 : fo_dl cX6_takeStep [(0, .iload_n 1, 1), (1, .lookupswitch 122 #[(108, 103), (112, 35), (115, 67)], 35), (36, .iload_n 3, 1), (37, .invokestatic 51, 3), (40, .ifCond .eq 13, 3), (43, .aload_n 0, 1), (44, .getfield 12, 3), (47, .invokevirtual 58, 3), (50, .ifCond .ne 5, 3), (53, .iconst 0, 1), (54, .ireturn, 1), (55, .aload_n 0, 1), (56, .getfield 12, 3), (59, .iload_n 2, 1), (60, .i2c, 1), (61, .iload_n 3, 1), (62, .invokevirtual 68, 3), (65, .pop, 1), (66, .iconst 1, 1), (67, .ireturn, 1), (68, .iload_n 2, 1), (69, .invokestatic 283, 3), (72, .ifCond .eq 18, 3), (75, .aload_n 0, 1), (76, .getfield 12, 3), (79, .getfield 286, 3), (82, .iload_n 2, 1), (83, .aaload, 1), (84, .invokevirtual 76, 3), (87, .ifCond .eq 5, 3), (90, .iconst 0, 1), (91, .ireturn, 1), (92, .aload_n 0, 1), (93, .getfield 12, 3), (96, .iload_n 2, 1), (97, .iload_n 3, 1), (98, .invokevirtual 81, 3), (101, .pop, 1), (102, .iconst 1, 1), (103, .ireturn, 1), (104, .iload_n 2, 1), (105, .invokestatic 51, 3), (108, .ifCond .ne 5, 3), (111, .iconst 0, 1), (112, .ireturn, 1), (113, .aload_n 0, 1), (114, .getfield 12, 3), (117, .iload_n 2, 1), (118, .putfield 85, 3), (121, .iconst 1, 1), (122, .ireturn, 1), (123, .iload_n 2, 1), (124, .invokestatic 283, 3), (127, .ifCond .ne 5, 3), (130, .iconst 0, 1), (131, .ireturn, 1), (132, .aload_n 0, 1), (133, .getfield 12, 3), (136, .iload_n 2, 1), (137, .invokevirtual 91, 3), (140, .iconst 1, 1), (141, .ireturn, 1)] := by decide +kernel
theorem dX6_takeStep_0 : decode cX6_takeStep 0 = .ok (.iload_n 1, 1) := fo_dd DX6_takeStep_0 0 rfl
theorem dX6_takeStep_1 : decode cX6_takeStep 1 = .ok (.lookupswitch 122 #[(108, 103), (112, 35), (115, 67)], 35) := fo_dd DX6_takeStep_0 1 rfl
theorem dX6_takeStep_36 : decode cX6_takeStep 36 = .ok (.iload_n 3, 1) := fo_dd DX6_takeStep_0 2 rfl
theorem dX6_takeStep_37 : decode cX6_takeStep 37 = .ok (.invokestatic 51, 3) := fo_dd DX6_takeStep_0 3 rfl
theorem dX6_takeStep_40 : decode cX6_takeStep 40 = .ok (.ifCond .eq 13, 3) := fo_dd DX6_takeStep_0 4 rfl
theorem dX6_takeStep_43 : decode cX6_takeStep 43 = .ok (.aload_n 0, 1) := fo_dd DX6_takeStep_0 5 rfl
theorem dX6_takeStep_44 : decode cX6_takeStep 44 = .ok (.getfield 12, 3) := fo_dd DX6_takeStep_0 6 rfl
theorem dX6_takeStep_47 : decode cX6_takeStep 47 = .ok (.invokevirtual 58, 3) := fo_dd DX6_takeStep_0 7 rfl
theorem dX6_takeStep_50 : decode cX6_takeStep 50 = .ok (.ifCond .ne 5, 3) := fo_dd DX6_takeStep_0 8 rfl
theorem dX6_takeStep_53 : decode cX6_takeStep 53 = .ok (.iconst 0, 1) := fo_dd DX6_takeStep_0 9 rfl
theorem dX6_takeStep_54 : decode cX6_takeStep 54 = .ok (.ireturn, 1) := fo_dd DX6_takeStep_0 10 rfl
theorem dX6_takeStep_55 : decode cX6_takeStep 55 = .ok (.aload_n 0, 1) := fo_dd DX6_takeStep_0 11 rfl
theorem dX6_takeStep_56 : decode cX6_takeStep 56 = .ok (.getfield 12, 3) := fo_dd DX6_takeStep_0 12 rfl
theorem dX6_takeStep_59 : decode cX6_takeStep 59 = .ok (.iload_n 2, 1) := fo_dd DX6_takeStep_0 13 rfl
theorem dX6_takeStep_60 : decode cX6_takeStep 60 = .ok (.i2c, 1) := fo_dd DX6_takeStep_0 14 rfl
theorem dX6_takeStep_61 : decode cX6_takeStep 61 = .ok (.iload_n 3, 1) := fo_dd DX6_takeStep_0 15 rfl
theorem dX6_takeStep_62 : decode cX6_takeStep 62 = .ok (.invokevirtual 68, 3) := fo_dd DX6_takeStep_0 16 rfl
theorem dX6_takeStep_65 : decode cX6_takeStep 65 = .ok (.pop, 1) := fo_dd DX6_takeStep_0 17 rfl
theorem dX6_takeStep_66 : decode cX6_takeStep 66 = .ok (.iconst 1, 1) := fo_dd DX6_takeStep_0 18 rfl
theorem dX6_takeStep_67 : decode cX6_takeStep 67 = .ok (.ireturn, 1) := fo_dd DX6_takeStep_0 19 rfl
theorem dX6_takeStep_68 : decode cX6_takeStep 68 = .ok (.iload_n 2, 1) := fo_dd DX6_takeStep_0 20 rfl
theorem dX6_takeStep_69 : decode cX6_takeStep 69 = .ok (.invokestatic 283, 3) := fo_dd DX6_takeStep_0 21 rfl
theorem dX6_takeStep_72 : decode cX6_takeStep 72 = .ok (.ifCond .eq 18, 3) := fo_dd DX6_takeStep_0 22 rfl
theorem dX6_takeStep_75 : decode cX6_takeStep 75 = .ok (.aload_n 0, 1) := fo_dd DX6_takeStep_0 23 rfl
theorem dX6_takeStep_76 : decode cX6_takeStep 76 = .ok (.getfield 12, 3) := fo_dd DX6_takeStep_0 24 rfl
theorem dX6_takeStep_79 : decode cX6_takeStep 79 = .ok (.getfield 286, 3) := fo_dd DX6_takeStep_0 25 rfl
theorem dX6_takeStep_82 : decode cX6_takeStep 82 = .ok (.iload_n 2, 1) := fo_dd DX6_takeStep_0 26 rfl
theorem dX6_takeStep_83 : decode cX6_takeStep 83 = .ok (.aaload, 1) := fo_dd DX6_takeStep_0 27 rfl
theorem dX6_takeStep_84 : decode cX6_takeStep 84 = .ok (.invokevirtual 76, 3) := fo_dd DX6_takeStep_0 28 rfl
theorem dX6_takeStep_87 : decode cX6_takeStep 87 = .ok (.ifCond .eq 5, 3) := fo_dd DX6_takeStep_0 29 rfl
theorem dX6_takeStep_90 : decode cX6_takeStep 90 = .ok (.iconst 0, 1) := fo_dd DX6_takeStep_0 30 rfl
theorem dX6_takeStep_91 : decode cX6_takeStep 91 = .ok (.ireturn, 1) := fo_dd DX6_takeStep_0 31 rfl
theorem dX6_takeStep_92 : decode cX6_takeStep 92 = .ok (.aload_n 0, 1) := fo_dd DX6_takeStep_0 32 rfl
theorem dX6_takeStep_93 : decode cX6_takeStep 93 = .ok (.getfield 12, 3) := fo_dd DX6_takeStep_0 33 rfl
theorem dX6_takeStep_96 : decode cX6_takeStep 96 = .ok (.iload_n 2, 1) := fo_dd DX6_takeStep_0 34 rfl
theorem dX6_takeStep_97 : decode cX6_takeStep 97 = .ok (.iload_n 3, 1) := fo_dd DX6_takeStep_0 35 rfl
theorem dX6_takeStep_98 : decode cX6_takeStep 98 = .ok (.invokevirtual 81, 3) := fo_dd DX6_takeStep_0 36 rfl
theorem dX6_takeStep_101 : decode cX6_takeStep 101 = .ok (.pop, 1) := fo_dd DX6_takeStep_0 37 rfl
theorem dX6_takeStep_102 : decode cX6_takeStep 102 = .ok (.iconst 1, 1) := fo_dd DX6_takeStep_0 38 rfl
theorem dX6_takeStep_103 : decode cX6_takeStep 103 = .ok (.ireturn, 1) := fo_dd DX6_takeStep_0 39 rfl
theorem dX6_takeStep_104 : decode cX6_takeStep 104 = .ok (.iload_n 2, 1) := fo_dd DX6_takeStep_0 40 rfl
theorem dX6_takeStep_105 : decode cX6_takeStep 105 = .ok (.invokestatic 51, 3) := fo_dd DX6_takeStep_0 41 rfl
theorem dX6_takeStep_108 : decode cX6_takeStep 108 = .ok (.ifCond .ne 5, 3) := fo_dd DX6_takeStep_0 42 rfl
theorem dX6_takeStep_111 : decode cX6_takeStep 111 = .ok (.iconst 0, 1) := fo_dd DX6_takeStep_0 43 rfl
theorem dX6_takeStep_112 : decode cX6_takeStep 112 = .ok (.ireturn, 1) := fo_dd DX6_takeStep_0 44 rfl
theorem dX6_takeStep_113 : decode cX6_takeStep 113 = .ok (.aload_n 0, 1) := fo_dd DX6_takeStep_0 45 rfl
theorem dX6_takeStep_114 : decode cX6_takeStep 114 = .ok (.getfield 12, 3) := fo_dd DX6_takeStep_0 46 rfl
theorem dX6_takeStep_117 : decode cX6_takeStep 117 = .ok (.iload_n 2, 1) := fo_dd DX6_takeStep_0 47 rfl
theorem dX6_takeStep_118 : decode cX6_takeStep 118 = .ok (.putfield 85, 3) := fo_dd DX6_takeStep_0 48 rfl
theorem dX6_takeStep_121 : decode cX6_takeStep 121 = .ok (.iconst 1, 1) := fo_dd DX6_takeStep_0 49 rfl
theorem dX6_takeStep_122 : decode cX6_takeStep 122 = .ok (.ireturn, 1) := fo_dd DX6_takeStep_0 50 rfl
theorem dX6_takeStep_123 : decode cX6_takeStep 123 = .ok (.iload_n 2, 1) := fo_dd DX6_takeStep_0 51 rfl
theorem dX6_takeStep_124 : decode cX6_takeStep 124 = .ok (.invokestatic 283, 3) := fo_dd DX6_takeStep_0 52 rfl
theorem dX6_takeStep_127 : decode cX6_takeStep 127 = .ok (.ifCond .ne 5, 3) := fo_dd DX6_takeStep_0 53 rfl
theorem dX6_takeStep_130 : decode cX6_takeStep 130 = .ok (.iconst 0, 1) := fo_dd DX6_takeStep_0 54 rfl
theorem dX6_takeStep_131 : decode cX6_takeStep 131 = .ok (.ireturn, 1) := fo_dd DX6_takeStep_0 55 rfl
theorem dX6_takeStep_132 : decode cX6_takeStep 132 = .ok (.aload_n 0, 1) := fo_dd DX6_takeStep_0 56 rfl
theorem dX6_takeStep_133 : decode cX6_takeStep 133 = .ok (.getfield 12, 3) := fo_dd DX6_takeStep_0 57 rfl
theorem dX6_takeStep_136 : decode cX6_takeStep 136 = .ok (.iload_n 2, 1) := fo_dd DX6_takeStep_0 58 rfl
theorem dX6_takeStep_137 : decode cX6_takeStep 137 = .ok (.invokevirtual 91, 3) := fo_dd DX6_takeStep_0 59 rfl
theorem dX6_takeStep_140 : decode cX6_takeStep 140 = .ok (.iconst 1, 1) := fo_dd DX6_takeStep_0 60 rfl
theorem dX6_takeStep_141 : decode cX6_takeStep 141 = .ok (.ireturn, 1) := fo_dd DX6_takeStep_0 61 rfl
theorem DX6_bitsOf_0 : fo_dl cX6_bitsOf [(0, .dload_n 0, 1), (1, .dconst 0, 1), (2, .dcmp .l, 1), (3, .ifCond .ne 5, 3), (6, .lconst 0, 1), (7, .lreturn, 1), (8, .dload_n 0, 1), (9, .dconst 0, 1), (10, .dcmp .g, 1), (11, .ifCond .ge 8, 3), (14, .dload_n 0, 1), (15, .dneg, 1), (16, .goto 4, 3), (19, .dload_n 0, 1), (20, .dstore_n 2, 1), (21, .ldc2_w 313, 3), (24, .lstore 4, 2), (26, .dload_n 2, 1), (27, .ldc2_w 315, 3), (30, .dcmp .l, 1), (31, .ifCond .lt 27, 3), (34, .lload 4, 2), (36, .ldc2_w 317, 3), (39, .lcmp, 1), (40, .ifCond .ge 18, 3), (43, .dload_n 2, 1), (44, .ldc2_w 315, 3), (47, .ddiv, 1), (48, .dstore_n 2, 1), (49, .lload 4, 2), (51, .lconst 1, 1), (52, .ladd, 1), (53, .lstore 4, 2), (55, .goto (-29), 3), (58, .dload_n 2, 1), (59, .dconst 1, 1), (60, .dcmp .g, 1), (61, .ifCond .ge 25, 3), (64, .lload 4, 2), (66, .lconst 1, 1), (67, .lcmp, 1), (68, .ifCond .le 18, 3), (71, .dload_n 2, 1), (72, .ldc2_w 315, 3), (75, .dmul, 1), (76, .dstore_n 2, 1), (77, .lload 4, 2), (79, .lconst 1, 1), (80, .lsub, 1), (81, .lstore 4, 2), (83, .goto (-25), 3), (86, .dload_n 2, 1), (87, .dconst 1, 1), (88, .dsub, 1), (89, .ldc2_w 319, 3), (92, .dmul, 1), (93, .d2l, 1), (94, .lstore 6, 2), (96, .dload_n 0, 1), (97, .dconst 0, 1), (98, .dcmp .g, 1), (99, .ifCond .ge 9, 3), (102, .ldc2_w 321, 3), (105, .goto 4, 3)] := by decide +kernel
theorem dX6_bitsOf_0 : decode cX6_bitsOf 0 = .ok (.dload_n 0, 1) := fo_dd DX6_bitsOf_0 0 rfl
theorem dX6_bitsOf_1 : decode cX6_bitsOf 1 = .ok (.dconst 0, 1) := fo_dd DX6_bitsOf_0 1 rfl
theorem dX6_bitsOf_2 : decode cX6_bitsOf 2 = .ok (.dcmp .l, 1) := fo_dd DX6_bitsOf_0 2 rfl
theorem dX6_bitsOf_3 : decode cX6_bitsOf 3 = .ok (.ifCond .ne 5, 3) := fo_dd DX6_bitsOf_0 3 rfl
theorem dX6_bitsOf_6 : decode cX6_bitsOf 6 = .ok (.lconst 0, 1) := fo_dd DX6_bitsOf_0 4 rfl
theorem dX6_bitsOf_7 : decode cX6_bitsOf 7 = .ok (.lreturn, 1) := fo_dd DX6_bitsOf_0 5 rfl
theorem dX6_bitsOf_8 : decode cX6_bitsOf 8 = .ok (.dload_n 0, 1) := fo_dd DX6_bitsOf_0 6 rfl
theorem dX6_bitsOf_9 : decode cX6_bitsOf 9 = .ok (.dconst 0, 1) := fo_dd DX6_bitsOf_0 7 rfl
theorem dX6_bitsOf_10 : decode cX6_bitsOf 10 = .ok (.dcmp .g, 1) := fo_dd DX6_bitsOf_0 8 rfl
theorem dX6_bitsOf_11 : decode cX6_bitsOf 11 = .ok (.ifCond .ge 8, 3) := fo_dd DX6_bitsOf_0 9 rfl
theorem dX6_bitsOf_14 : decode cX6_bitsOf 14 = .ok (.dload_n 0, 1) := fo_dd DX6_bitsOf_0 10 rfl
theorem dX6_bitsOf_15 : decode cX6_bitsOf 15 = .ok (.dneg, 1) := fo_dd DX6_bitsOf_0 11 rfl
theorem dX6_bitsOf_16 : decode cX6_bitsOf 16 = .ok (.goto 4, 3) := fo_dd DX6_bitsOf_0 12 rfl
theorem dX6_bitsOf_19 : decode cX6_bitsOf 19 = .ok (.dload_n 0, 1) := fo_dd DX6_bitsOf_0 13 rfl
theorem dX6_bitsOf_20 : decode cX6_bitsOf 20 = .ok (.dstore_n 2, 1) := fo_dd DX6_bitsOf_0 14 rfl
theorem dX6_bitsOf_21 : decode cX6_bitsOf 21 = .ok (.ldc2_w 313, 3) := fo_dd DX6_bitsOf_0 15 rfl
theorem dX6_bitsOf_24 : decode cX6_bitsOf 24 = .ok (.lstore 4, 2) := fo_dd DX6_bitsOf_0 16 rfl
theorem dX6_bitsOf_26 : decode cX6_bitsOf 26 = .ok (.dload_n 2, 1) := fo_dd DX6_bitsOf_0 17 rfl
theorem dX6_bitsOf_27 : decode cX6_bitsOf 27 = .ok (.ldc2_w 315, 3) := fo_dd DX6_bitsOf_0 18 rfl
theorem dX6_bitsOf_30 : decode cX6_bitsOf 30 = .ok (.dcmp .l, 1) := fo_dd DX6_bitsOf_0 19 rfl
theorem dX6_bitsOf_31 : decode cX6_bitsOf 31 = .ok (.ifCond .lt 27, 3) := fo_dd DX6_bitsOf_0 20 rfl
theorem dX6_bitsOf_34 : decode cX6_bitsOf 34 = .ok (.lload 4, 2) := fo_dd DX6_bitsOf_0 21 rfl
theorem dX6_bitsOf_36 : decode cX6_bitsOf 36 = .ok (.ldc2_w 317, 3) := fo_dd DX6_bitsOf_0 22 rfl
theorem dX6_bitsOf_39 : decode cX6_bitsOf 39 = .ok (.lcmp, 1) := fo_dd DX6_bitsOf_0 23 rfl
theorem dX6_bitsOf_40 : decode cX6_bitsOf 40 = .ok (.ifCond .ge 18, 3) := fo_dd DX6_bitsOf_0 24 rfl
theorem dX6_bitsOf_43 : decode cX6_bitsOf 43 = .ok (.dload_n 2, 1) := fo_dd DX6_bitsOf_0 25 rfl
theorem dX6_bitsOf_44 : decode cX6_bitsOf 44 = .ok (.ldc2_w 315, 3) := fo_dd DX6_bitsOf_0 26 rfl
theorem dX6_bitsOf_47 : decode cX6_bitsOf 47 = .ok (.ddiv, 1) := fo_dd DX6_bitsOf_0 27 rfl
theorem dX6_bitsOf_48 : decode cX6_bitsOf 48 = .ok (.dstore_n 2, 1) := fo_dd DX6_bitsOf_0 28 rfl
theorem dX6_bitsOf_49 : decode cX6_bitsOf 49 = .ok (.lload 4, 2) := fo_dd DX6_bitsOf_0 29 rfl
theorem dX6_bitsOf_51 : decode cX6_bitsOf 51 = .ok (.lconst 1, 1) := fo_dd DX6_bitsOf_0 30 rfl
theorem dX6_bitsOf_52 : decode cX6_bitsOf 52 = .ok (.ladd, 1) := fo_dd DX6_bitsOf_0 31 rfl
theorem dX6_bitsOf_53 : decode cX6_bitsOf 53 = .ok (.lstore 4, 2) := fo_dd DX6_bitsOf_0 32 rfl
theorem dX6_bitsOf_55 : decode cX6_bitsOf 55 = .ok (.goto (-29), 3) := fo_dd DX6_bitsOf_0 33 rfl
theorem dX6_bitsOf_58 : decode cX6_bitsOf 58 = .ok (.dload_n 2, 1) := fo_dd DX6_bitsOf_0 34 rfl
theorem dX6_bitsOf_59 : decode cX6_bitsOf 59 = .ok (.dconst 1, 1) := fo_dd DX6_bitsOf_0 35 rfl
theorem dX6_bitsOf_60 : decode cX6_bitsOf 60 = .ok (.dcmp .g, 1) := fo_dd DX6_bitsOf_0 36 rfl
theorem dX6_bitsOf_61 : decode cX6_bitsOf 61 = .ok (.ifCond .ge 25, 3) := fo_dd DX6_bitsOf_0 37 rfl
theorem dX6_bitsOf_64 : decode cX6_bitsOf 64 = .ok (.lload 4, 2) := fo_dd DX6_bitsOf_0 38 rfl
theorem dX6_bitsOf_66 : decode cX6_bitsOf 66 = .ok (.lconst 1, 1) := fo_dd DX6_bitsOf_0 39 rfl
theorem dX6_bitsOf_67 : decode cX6_bitsOf 67 = .ok (.lcmp, 1) := fo_dd DX6_bitsOf_0 40 rfl
theorem dX6_bitsOf_68 : decode cX6_bitsOf 68 = .ok (.ifCond .le 18, 3) := fo_dd DX6_bitsOf_0 41 rfl
theorem dX6_bitsOf_71 : decode cX6_bitsOf 71 = .ok (.dload_n 2, 1) := fo_dd DX6_bitsOf_0 42 rfl
theorem dX6_bitsOf_72 : decode cX6_bitsOf 72 = .ok (.ldc2_w 315, 3) := fo_dd DX6_bitsOf_0 43 rfl
theorem dX6_bitsOf_75 : decode cX6_bitsOf 75 = .ok (.dmul, 1) := fo_dd DX6_bitsOf_0 44 rfl
theorem dX6_bitsOf_76 : decode cX6_bitsOf 76 = .ok (.dstore_n 2, 1) := fo_dd DX6_bitsOf_0 45 rfl
theorem dX6_bitsOf_77 : decode cX6_bitsOf 77 = .ok (.lload 4, 2) := fo_dd DX6_bitsOf_0 46 rfl
theorem dX6_bitsOf_79 : decode cX6_bitsOf 79 = .ok (.lconst 1, 1) := fo_dd DX6_bitsOf_0 47 rfl
theorem dX6_bitsOf_80 : decode cX6_bitsOf 80 = .ok (.lsub, 1) := fo_dd DX6_bitsOf_0 48 rfl
theorem dX6_bitsOf_81 : decode cX6_bitsOf 81 = .ok (.lstore 4, 2) := fo_dd DX6_bitsOf_0 49 rfl
theorem dX6_bitsOf_83 : decode cX6_bitsOf 83 = .ok (.goto (-25), 3) := fo_dd DX6_bitsOf_0 50 rfl
theorem dX6_bitsOf_86 : decode cX6_bitsOf 86 = .ok (.dload_n 2, 1) := fo_dd DX6_bitsOf_0 51 rfl
theorem dX6_bitsOf_87 : decode cX6_bitsOf 87 = .ok (.dconst 1, 1) := fo_dd DX6_bitsOf_0 52 rfl
theorem dX6_bitsOf_88 : decode cX6_bitsOf 88 = .ok (.dsub, 1) := fo_dd DX6_bitsOf_0 53 rfl
theorem dX6_bitsOf_89 : decode cX6_bitsOf 89 = .ok (.ldc2_w 319, 3) := fo_dd DX6_bitsOf_0 54 rfl
theorem dX6_bitsOf_92 : decode cX6_bitsOf 92 = .ok (.dmul, 1) := fo_dd DX6_bitsOf_0 55 rfl
theorem dX6_bitsOf_93 : decode cX6_bitsOf 93 = .ok (.d2l, 1) := fo_dd DX6_bitsOf_0 56 rfl
theorem dX6_bitsOf_94 : decode cX6_bitsOf 94 = .ok (.lstore 6, 2) := fo_dd DX6_bitsOf_0 57 rfl
theorem dX6_bitsOf_96 : decode cX6_bitsOf 96 = .ok (.dload_n 0, 1) := fo_dd DX6_bitsOf_0 58 rfl
theorem dX6_bitsOf_97 : decode cX6_bitsOf 97 = .ok (.dconst 0, 1) := fo_dd DX6_bitsOf_0 59 rfl
theorem dX6_bitsOf_98 : decode cX6_bitsOf 98 = .ok (.dcmp .g, 1) := fo_dd DX6_bitsOf_0 60 rfl
theorem dX6_bitsOf_99 : decode cX6_bitsOf 99 = .ok (.ifCond .ge 9, 3) := fo_dd DX6_bitsOf_0 61 rfl
theorem dX6_bitsOf_102 : decode cX6_bitsOf 102 = .ok (.ldc2_w 321, 3) := fo_dd DX6_bitsOf_0 62 rfl
theorem dX6_bitsOf_105 : decode cX6_bitsOf 105 = .ok (.goto 4, 3) := fo_dd DX6_bitsOf_0 63 rfl
theorem DX6_bitsOf_1 : fo_dl cX6_bitsOf [(108, .lconst 0, 1), (109, .lstore 8, 2), (111, .lload 8, 2), (113, .lload 4, 2), (115, .bipush 52, 2), (117, .lshl, 1), (118, .lor, 1), (119, .lload 6, 2), (121, .lor, 1), (122, .lreturn, 1)] := by decide +kernel
theorem dX6_bitsOf_108 : decode cX6_bitsOf 108 = .ok (.lconst 0, 1) := fo_dd DX6_bitsOf_1 0 rfl
theorem dX6_bitsOf_109 : decode cX6_bitsOf 109 = .ok (.lstore 8, 2) := fo_dd DX6_bitsOf_1 1 rfl
theorem dX6_bitsOf_111 : decode cX6_bitsOf 111 = .ok (.lload 8, 2) := fo_dd DX6_bitsOf_1 2 rfl
theorem dX6_bitsOf_113 : decode cX6_bitsOf 113 = .ok (.lload 4, 2) := fo_dd DX6_bitsOf_1 3 rfl
theorem dX6_bitsOf_115 : decode cX6_bitsOf 115 = .ok (.bipush 52, 2) := fo_dd DX6_bitsOf_1 4 rfl
theorem dX6_bitsOf_117 : decode cX6_bitsOf 117 = .ok (.lshl, 1) := fo_dd DX6_bitsOf_1 5 rfl
theorem dX6_bitsOf_118 : decode cX6_bitsOf 118 = .ok (.lor, 1) := fo_dd DX6_bitsOf_1 6 rfl
theorem dX6_bitsOf_119 : decode cX6_bitsOf 119 = .ok (.lload 6, 2) := fo_dd DX6_bitsOf_1 7 rfl
theorem dX6_bitsOf_121 : decode cX6_bitsOf 121 = .ok (.lor, 1) := fo_dd DX6_bitsOf_1 8 rfl
theorem dX6_bitsOf_122 : decode cX6_bitsOf 122 = .ok (.lreturn, 1) := fo_dd DX6_bitsOf_1 9 rfl
